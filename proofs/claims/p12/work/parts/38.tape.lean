/-! READING: bytes, tokens; what both readers do to the place where they stand -/
abbrev TT : Type := Nat × Nat × Int × Int
/-- the sort of a byte: 1 a letter, 2 a digit, 3 a semicolon, 4 a blank, 5 any other -/
def so (x : Int) : Int := if 97 ≤ x ∧ x ≤ 122 then 1 else if 48 ≤ x ∧ x ≤ 57 then 2 else if x = 59 then 3 else if x = 32 ∨ x = 10 then 4 else 5
theorem so_r (x : Int) : 1 ≤ so x ∧ so x ≤ 5 := by
  unfold so
  (repeat' split) <;> omega
/-- the first place from a on whose byte isn't of the sort s, or the end -/
def edf (b : Nat → Int) (lim : Nat) (s : Int) : Nat → Nat → Nat
  | 0, a => a
  | n + 1, a => if a < lim ∧ so (b a) = s then edf b lim s n (a + 1) else a
def edn (b : Nat → Int) (lim : Nat) (s : Int) (a : Nat) : Nat := edf b lim s (lim - a) a
theorem edn_go {b : Nat → Int} {lim a : Nat} {s : Int} (h : a < lim) (hs : so (b a) = s) : edn b lim s a = edn b lim s (a + 1) := by
  unfold edn
  rw [show lim - a = (lim - (a + 1)) + 1 by omega]
  show (if a < lim ∧ so (b a) = s then edf b lim s (lim - (a + 1)) (a + 1) else a) = _
  rw [if_pos ⟨h, hs⟩]
theorem edn_end {b : Nat → Int} {lim a : Nat} {s : Int} (h : ¬ (a < lim ∧ so (b a) = s)) : edn b lim s a = a := by
  unfold edn
  cases hn : lim - a with
  | zero => rfl
  | succ n =>
    show (if a < lim ∧ so (b a) = s then edf b lim s n (a + 1) else a) = _
    rw [if_neg h]
theorem edn_le {b : Nat → Int} {lim : Nat} {s : Int} : ∀ (n a : Nat), lim - a = n → a ≤ lim → a ≤ edn b lim s a ∧ edn b lim s a ≤ lim := by
  intro n
  induction n with
  | zero => intro a h1 h2; rw [edn_end (by omega)]; omega
  | succ n ih =>
    intro a h1 h2
    by_cases h : a < lim ∧ so (b a) = s
    · rw [edn_go h.1 h.2]
      have := ih (a + 1) (by omega) (by omega)
      omega
    · rw [edn_end h]; omega
/-- on to the next token: its first place, the place behind it, its sort (0: there is none), the fault's place (-1: none) -/
def adv (b : Nat → Int) (lim : Nat) (t : TT) : TT :=
  (edn b lim 4 t.2.1, (if edn b lim 4 t.2.1 < lim then (if so (b (edn b lim 4 t.2.1)) = 1 ∨ so (b (edn b lim 4 t.2.1)) = 2 then edn b lim (so (b (edn b lim 4 t.2.1))) (edn b lim 4 t.2.1 + 1) else edn b lim 4 t.2.1 + 1) else edn b lim 4 t.2.1), (if edn b lim 4 t.2.1 < lim then so (b (edn b lim 4 t.2.1)) else 0), t.2.2.2)
def fal (t : TT) : TT := (t.1, t.2.1, t.2.2.1, if t.2.2.2 = -1 then (t.1 : Int) else t.2.2.2)
/-- which word of a list the token is, the list's signs one by one -/
def pkf (b : Nat → Int) (f p : Nat) : List Int → Int → Nat → Bool → Int
  | [], i, a, al => if al = true ∧ a = p then i else -1
  | c :: cs, i, a, al => if c = 32 then (if al = true ∧ a = p then i else pkf b f p cs (i + 1) f true) else pkf b f p cs i (a + 1) (al && decide (a < p ∧ b a = c))
def pkv (b : Nat → Int) (t : TT) (n : Nat) : Int := if t.2.2.2 = -1 ∧ t.2.2.1 = 1 then pkf b t.1 t.2.1 (av_lit n) 0 t.1 true else -1
def cho (b : Nat → Int) (lim : Nat) (t : TT) (n : Nat) : TT := if pkv b t n = -1 then fal t else adv b lim t
def tak (b : Nat → Int) (lim : Nat) (t : TT) (n : Nat) : TT := if pkv b t n = -1 then t else adv b lim t
def sem (b : Nat → Int) (lim : Nat) (t : TT) : TT := if t.2.2.2 = -1 ∧ t.2.2.1 = 3 then adv b lim t else fal t
/-- the number that n digits from f on are -/
def dgv (b : Nat → Int) (f : Nat) : Nat → Int
  | 0 => 0
  | n + 1 => dgv b f n * 10 + b (f + n) - 48
def vlv (b : Nat → Int) (t : TT) : Int := if t.2.2.2 = -1 ∧ t.2.2.1 = 2 ∧ (t.2.1 : Int) - t.1 ≤ 4 then dgv b t.1 (t.2.1 - t.1) else -1
def nok (b : Nat → Int) (t : TT) (lo hi : Int) : Prop := vlv b t ≠ -1 ∧ lo ≤ vlv b t ∧ vlv b t ≤ hi
def nmt (b : Nat → Int) (lim : Nat) (t : TT) (lo hi : Int) : TT := if vlv b t ≠ -1 ∧ lo ≤ vlv b t ∧ vlv b t ≤ hi then adv b lim t else fal t
def nmv (b : Nat → Int) (t : TT) (lo hi : Int) : Int := if vlv b t ≠ -1 ∧ lo ≤ vlv b t ∧ vlv b t ≤ hi then vlv b t else -1
/-- the class's reader stands so -/
def WF (lim : Nat) (t : TT) : Prop := t.1 ≤ 900 ∧ t.2.1 ≤ lim ∧ lim ≤ 900 ∧ (0 ≤ t.2.2.1 ∧ t.2.2.1 ≤ 5) ∧ (-1 ≤ t.2.2.2 ∧ t.2.2.2 ≤ 900)
def CT (b : Nat → Int) (lim : Nat) (t : TT) (r d : Nat → Int) (h : av_H) : Prop := LY h ∧ hA h 2 = b ∧ (∀ j, -128 ≤ b j ∧ b j ≤ 127) ∧ hF h 1 2 = (lim : Int) ∧ hF h 1 3 = (t.1 : Int) ∧ hF h 1 4 = (t.2.1 : Int) ∧ hF h 1 5 = t.2.2.1 ∧ hF h 1 6 = t.2.2.2 ∧ hA h 23 = r ∧ hA h 25 = d ∧ WF lim t ∧ (∀ j, -2000 ≤ r j ∧ r j ≤ 100000) ∧ (∀ j, -2 ≤ d j ∧ d j ≤ 999)
def tF (o f : Nat) : Bool := Nat.beq o 1 && (Nat.beq f 2 || Nat.beq f 3 || Nat.beq f 4 || Nat.beq f 5 || Nat.beq f 6)
def FT (g h : av_H) : Prop := h.1 = g.1 ∧ h.2.1 = g.2.1 ∧ hK h = hK g ∧ hR h = hR g ∧ hG h = hG g ∧ (∀ o f, tF o f = false → hF h o f = hF g o f) ∧ (∀ a, a ≠ 23 → a ≠ 25 → hA h a = hA g a)
theorem FT_rf (h : av_H) : FT h h := ⟨rfl, rfl, rfl, rfl, rfl, fun _ _ _ => rfl, fun _ _ _ => rfl⟩
theorem FT_tr {g h k : av_H} (a : FT g h) (b : FT h k) : FT g k := ⟨b.1.trans a.1, b.2.1.trans a.2.1, b.2.2.1.trans a.2.2.1, b.2.2.2.1.trans a.2.2.2.1, b.2.2.2.2.1.trans a.2.2.2.2.1, fun o f e => (b.2.2.2.2.2.1 o f e).trans (a.2.2.2.2.2.1 o f e), fun o e1 e2 => (b.2.2.2.2.2.2 o e1 e2).trans (a.2.2.2.2.2.2 o e1 e2)⟩
theorem FT_wF {g h : av_H} {o f : Nat} {v : Int} (F : FT g h) (e : tF o f = true) : FT g (hwF h o f v) := ⟨F.1, F.2.1, F.2.2.1, F.2.2.2.1, F.2.2.2.2.1, fun k q hk => by
  show av_u2 h.2.2.2.2.1 o f v k q = _
  have hne : ¬ (k = o ∧ q = f) := fun z => by rw [z.1, z.2, e] at hk; cases hk
  rw [av_u2, if_neg hne]
  exact F.2.2.2.2.2.1 k q hk, F.2.2.2.2.2.2⟩
theorem FT_wA {g h : av_H} {a j : Nat} {v : Int} (F : FT g h) (e : a = 23 ∨ a = 25) : FT g (hwA h a j v) := ⟨F.1, F.2.1, F.2.2.1, F.2.2.2.1, F.2.2.2.2.1, F.2.2.2.2.2.1, fun k h1 h2 => by
  rw [hA_ne (by omega)]
  exact F.2.2.2.2.2.2 k h1 h2⟩
section
variable {b r d : Nat → Int} {lim : Nat} {t : TT} {h : av_H}
theorem ct_L (C : CT b lim t r d h) : LY h := C.1
theorem ct_b (C : CT b lim t r d h) : hA h 2 = b := C.2.1
theorem ct_bv (C : CT b lim t r d h) (j : Nat) : -128 ≤ b j ∧ b j ≤ 127 := C.2.2.1 j
theorem ct_l (C : CT b lim t r d h) : hF h 1 2 = (lim : Int) := C.2.2.2.1
theorem ct_f (C : CT b lim t r d h) : hF h 1 3 = (t.1 : Int) := C.2.2.2.2.1
theorem ct_p (C : CT b lim t r d h) : hF h 1 4 = (t.2.1 : Int) := C.2.2.2.2.2.1
theorem ct_s (C : CT b lim t r d h) : hF h 1 5 = t.2.2.1 := C.2.2.2.2.2.2.1
theorem ct_w (C : CT b lim t r d h) : hF h 1 6 = t.2.2.2 := C.2.2.2.2.2.2.2.1
theorem ct_r (C : CT b lim t r d h) : hA h 23 = r := C.2.2.2.2.2.2.2.2.1
theorem ct_d (C : CT b lim t r d h) : hA h 25 = d := C.2.2.2.2.2.2.2.2.2.1
theorem ct_wf (C : CT b lim t r d h) : t.1 ≤ 900 ∧ t.2.1 ≤ lim ∧ lim ≤ 900 ∧ (0 ≤ t.2.2.1 ∧ t.2.2.1 ≤ 5) ∧ (-1 ≤ t.2.2.2 ∧ t.2.2.2 ≤ 900) := C.2.2.2.2.2.2.2.2.2.2.1
theorem ct_rv (C : CT b lim t r d h) (j : Nat) : -2000 ≤ r j ∧ r j ≤ 100000 := C.2.2.2.2.2.2.2.2.2.2.2.1 j
theorem ct_dv (C : CT b lim t r d h) (j : Nat) : -2 ≤ d j ∧ d j ≤ 999 := C.2.2.2.2.2.2.2.2.2.2.2.2 j
theorem LY_F {h : av_H} {o f : Nat} {v : Int} (L : LY h) : LY (hwF h o f v) := L
theorem ct_wF {f : Nat} {v : Int} (C : CT b lim t r d h) (t' : TT) (e2 : f ≠ 2) (e3 : (t'.1 : Int) = if f = 3 then v else (t.1 : Int)) (e4 : (t'.2.1 : Int) = if f = 4 then v else (t.2.1 : Int)) (e5 : t'.2.2.1 = if f = 5 then v else t.2.2.1) (e6 : t'.2.2.2 = if f = 6 then v else t.2.2.2) (w : WF lim t') : CT b lim t' r d (hwF h 1 f v) := by
  refine ⟨C.1, C.2.1, C.2.2.1, (hF_oth (Ne.symm e2)).trans C.2.2.2.1, ?_, ?_, ?_, ?_, C.2.2.2.2.2.2.2.2.1, C.2.2.2.2.2.2.2.2.2.1, w, C.2.2.2.2.2.2.2.2.2.2.2⟩
  · rw [e3]
    by_cases e : f = 3
    · subst e; rw [if_pos rfl]; exact hF_self
    · rw [if_neg e]; exact (hF_oth (Ne.symm e)).trans (ct_f C)
  · rw [e4]
    by_cases e : f = 4
    · subst e; rw [if_pos rfl]; exact hF_self
    · rw [if_neg e]; exact (hF_oth (Ne.symm e)).trans (ct_p C)
  · rw [e5]
    by_cases e : f = 5
    · subst e; rw [if_pos rfl]; exact hF_self
    · rw [if_neg e]; exact (hF_oth (Ne.symm e)).trans (ct_s C)
  · rw [e6]
    by_cases e : f = 6
    · subst e; rw [if_pos rfl]; exact hF_self
    · rw [if_neg e]; exact (hF_oth (Ne.symm e)).trans (ct_w C)
end
section
variable {sc : av_Sr} {cd : List (Nat × av_E)} {Q : Option av_V → av_H → Prop} {pc p' : Nat} {lv : av_L} {r' : List av_V} {g h : av_H} {b r d : Nat → Int} {lim : Nat} {t : TT}
theorem ct_p3 {idx : Nat} {v : Int} (hx : cd.lookup pc = some (av_qf (.putfield idx) 6 3 0)) (hp : pc + 3 = p') (C : CT b lim t r d h) (F : FT g h) (k : Nat) (e : v = (k : Int)) (hk : k ≤ lim) (hw : ∀ h', CT b lim (k, t.2) r d h' → FT g h' → av_wp sc cd p' lv r' h' Q) : av_wp sc cd pc lv (.inl v :: .inr (.inr (.inl (some 1))) :: r') h Q :=
  wq_pi hx hp (congrArg Prod.fst (ly_k C.1 1 rfl)) rfl (hw _ (ct_wF C (k, t.2) (by decide) (by rw [if_pos rfl]; exact e.symm) rfl rfl rfl ⟨Nat.le_trans hk (ct_wf C).2.2.1, (ct_wf C).2⟩) (FT_wF F rfl))
theorem ct_p4 {idx : Nat} {v : Int} (hx : cd.lookup pc = some (av_qf (.putfield idx) 6 4 0)) (hp : pc + 3 = p') (C : CT b lim t r d h) (F : FT g h) (k : Nat) (e : v = (k : Int)) (hk : k ≤ lim) (hw : ∀ h', CT b lim (t.1, k, t.2.2) r d h' → FT g h' → av_wp sc cd p' lv r' h' Q) : av_wp sc cd pc lv (.inl v :: .inr (.inr (.inl (some 1))) :: r') h Q :=
  wq_pi hx hp (congrArg Prod.fst (ly_k C.1 1 rfl)) rfl (hw _ (ct_wF C (t.1, k, t.2.2) (by decide) rfl (by rw [if_pos rfl]; exact e.symm) rfl rfl ⟨(ct_wf C).1, hk, (ct_wf C).2.2⟩) (FT_wF F rfl))
theorem ct_p5 {idx : Nat} {v : Int} (hx : cd.lookup pc = some (av_qf (.putfield idx) 6 5 0)) (hp : pc + 3 = p') (C : CT b lim t r d h) (F : FT g h) (hk : 0 ≤ v ∧ v ≤ 5) (hw : ∀ h', CT b lim (t.1, t.2.1, v, t.2.2.2) r d h' → FT g h' → av_wp sc cd p' lv r' h' Q) : av_wp sc cd pc lv (.inl v :: .inr (.inr (.inl (some 1))) :: r') h Q :=
  wq_pi hx hp (congrArg Prod.fst (ly_k C.1 1 rfl)) rfl (hw _ (ct_wF C (t.1, t.2.1, v, t.2.2.2) (by decide) rfl rfl (by rw [if_pos rfl]) rfl ⟨(ct_wf C).1, (ct_wf C).2.1, (ct_wf C).2.2.1, hk, (ct_wf C).2.2.2.2⟩) (FT_wF F rfl))
theorem ct_p6 {idx : Nat} {v : Int} (hx : cd.lookup pc = some (av_qf (.putfield idx) 6 6 0)) (hp : pc + 3 = p') (C : CT b lim t r d h) (F : FT g h) (hk : -1 ≤ v ∧ v ≤ 900) (hw : ∀ h', CT b lim (t.1, t.2.1, t.2.2.1, v) r d h' → FT g h' → av_wp sc cd p' lv r' h' Q) : av_wp sc cd pc lv (.inl v :: .inr (.inr (.inl (some 1))) :: r') h Q :=
  wq_pi hx hp (congrArg Prod.fst (ly_k C.1 1 rfl)) rfl (hw _ (ct_wF C (t.1, t.2.1, t.2.2.1, v) (by decide) rfl rfl rfl (by rw [if_pos rfl]) ⟨(ct_wf C).1, (ct_wf C).2.1, (ct_wf C).2.2.1, (ct_wf C).2.2.2.1, hk⟩) (FT_wF F rfl))
end
/-! the words of a list, sign by sign -/
def PKI (b : Nat → Int) (f p : Nat) (L : List Int) (R i idx a al : Int) : Prop := (i ≤ L.length ∧ pkf b f p (L.drop i.toNat) idx a.toNat (decide (al = 1)) = R) ∨ (i = L.length + 1 ∧ R = -1)
def sgn (L : List Int) (i : Int) : Int := if i < L.length then L.getD i.toNat 0 else 32
theorem drop_c {L : List Int} {i : Int} (h0 : 0 ≤ i) (h1 : i < L.length) : L.drop i.toNat = L.getD i.toNat 0 :: L.drop (i + 1).toNat := by
  have hl : i.toNat < L.length := by omega
  rw [List.drop_eq_getElem_cons hl, show (i + 1).toNat = i.toNat + 1 by omega, List.getD_eq_getElem?_getD, List.getElem?_eq_getElem hl]
  rfl
theorem PKI_char {b : Nat → Int} {f p : Nat} {L : List Int} {R i idx a al al' : Int} (h : PKI b f p L R i idx a al) (h0 : 0 ≤ i) (ha : 0 ≤ a) (h1 : i ≤ L.length) (hs : sgn L i ≠ 32) (hal : (al' = 1 ∧ al = 1 ∧ a < p ∧ b a.toNat = sgn L i) ∨ (al' = 0 ∧ ¬ (al = 1 ∧ a < p ∧ b a.toNat = sgn L i))) : PKI b f p L R (i + 1) idx (a + 1) al' := by
  have hl : i < L.length := by
    unfold sgn at hs
    split at hs
    · assumption
    · exact absurd rfl hs
  have hg : sgn L i = L.getD i.toNat 0 := if_pos hl
  rw [hg] at hs hal
  rcases h with h | h
  · left
    refine ⟨by omega, ?_⟩
    rw [← h.2, drop_c h0 hl]
    show _ = (if L.getD i.toNat 0 = 32 then _ else pkf b f p (L.drop (i + 1).toNat) idx (a.toNat + 1) (decide (al = 1) && decide (a.toNat < p ∧ b a.toNat = L.getD i.toNat 0)))
    rw [if_neg hs, show (a + 1).toNat = a.toNat + 1 by omega]
    congr 1
    rcases hal with ⟨e1, e2, e3, e4⟩ | ⟨e1, e2⟩
    · rw [e1, e2, decide_eq_true (show a.toNat < p ∧ b a.toNat = L.getD i.toNat 0 from ⟨by omega, e4⟩)]
      rfl
    · rw [e1, show decide ((0 : Int) = 1) = false from rfl]
      symm
      rw [Bool.and_eq_false_iff]
      by_cases e : al = 1
      · right
        exact decide_eq_false (fun z => e2 ⟨e, by omega, z.2⟩)
      · left
        exact decide_eq_false e
  · omega
theorem PKI_hit {b : Nat → Int} {f p : Nat} {L : List Int} {R i idx a al : Int} (h : PKI b f p L R i idx a al) (h0 : 0 ≤ i) (ha : 0 ≤ a) (h1 : i ≤ L.length) (hs : sgn L i = 32) (hal : al = 1) (hp : a = p) : idx = R := by
  rcases h with h | h
  · rw [← h.2, hal, show decide ((1 : Int) = 1) = true from rfl]
    by_cases hl : i < L.length
    · rw [drop_c h0 hl]
      have hg : sgn L i = L.getD i.toNat 0 := if_pos hl
      rw [hg] at hs
      show _ = (if L.getD i.toNat 0 = 32 then (if true = true ∧ a.toNat = p then idx else _) else _)
      rw [if_pos hs, if_pos ⟨rfl, by omega⟩]
    · rw [List.drop_eq_nil_of_le (by omega)]
      show _ = (if true = true ∧ a.toNat = p then idx else -1)
      rw [if_pos ⟨rfl, by omega⟩]
  · omega
theorem PKI_miss {b : Nat → Int} {f p : Nat} {L : List Int} {R i idx a al : Int} (h : PKI b f p L R i idx a al) (h0 : 0 ≤ i) (ha : 0 ≤ a) (h1 : i ≤ L.length) (hs : sgn L i = 32) (hal : ¬ (al = 1 ∧ a = p)) : PKI b f p L R (i + 1) (idx + 1) (f : Int) 1 := by
  rcases h with h | h
  · have hn : ¬ (decide (al = 1) = true ∧ a.toNat = p) := fun z => hal ⟨of_decide_eq_true z.1, by omega⟩
    by_cases hl : i < L.length
    · left
      refine ⟨by omega, ?_⟩
      rw [← h.2, drop_c h0 hl]
      have hg : sgn L i = L.getD i.toNat 0 := if_pos hl
      rw [hg] at hs
      show _ = (if L.getD i.toNat 0 = 32 then (if decide (al = 1) = true ∧ a.toNat = p then idx else pkf b f p (L.drop (i + 1).toNat) (idx + 1) f true) else _)
      rw [if_pos hs, if_neg hn]
      rfl
    · right
      refine ⟨by omega, ?_⟩
      rw [← h.2, List.drop_eq_nil_of_le (by omega)]
      show (if decide (al = 1) = true ∧ a.toNat = p then idx else -1) = -1
      rw [if_neg hn]
  · omega
theorem PKI_0 {b : Nat → Int} {f p : Nat} {L : List Int} : PKI b f p L (pkf b f p L 0 f true) 0 0 (f : Int) 1 := Or.inl ⟨by omega, rfl⟩
theorem PKI_x {b : Nat → Int} {f p : Nat} {L : List Int} {R i idx a al : Int} (h : PKI b f p L R i idx a al) (h1 : L.length < i) : R = -1 := by
  rcases h with h | h
  · omega
  · exact h.2
/-- the library's length and charAt of a literal -/
theorem wq_sl {sc : av_Sr} {cd : List (Nat × av_E)} {Q : Option av_V → av_H → Prop} {pc p' : Nat} {lv : av_L} {r : List av_V} {h : av_H} {ins : Instr} {k : Nat} (hx : cd.lookup pc = some (av_qa ins 1005)) (hp : pc + 3 = p') (hk : av_kd (av_qa ins 1005) = 0) (hs : ∀ lv st, av_stp sc (av_qa ins 1005) pc lv st h = av_lib 1005 pc lv st h) (hr : Nat.ble (r.map av_cat).sum 8 = true) (hn : k < 20) (hw : av_wp sc cd p' lv (.inl ((av_lit k).length : Int) :: r) h Q) : av_wp sc cd pc lv (.inr (.inr (.inr k)) :: r) h Q := by
  subst hp
  refine av_wp_st1 hx (pc' := pc + 3) (lv' := lv) (st' := .inl ((av_lit k).length : Int) :: r) (h' := h) hk ?_ hw
  rw [hs]
  simp only [av_lib]
  rw [if_pos ⟨Nat.le_of_ble_eq_true hr, hn⟩]
theorem wq_sc {sc : av_Sr} {cd : List (Nat × av_E)} {Q : Option av_V → av_H → Prop} {pc p' : Nat} {lv : av_L} {r : List av_V} {h : av_H} {ins : Instr} {k : Nat} {i : Int} (hx : cd.lookup pc = some (av_qa ins 1006)) (hp : pc + 3 = p') (hk : av_kd (av_qa ins 1006) = 0) (hs : ∀ lv st, av_stp sc (av_qa ins 1006) pc lv st h = av_lib 1006 pc lv st h) (hr : Nat.ble (r.map av_cat).sum 8 = true) (hn : k < 20) (hi : 0 ≤ i ∧ i < (av_lit k).length ∧ ((av_lit k).length : Int) < 2147483648) (hw : av_wp sc cd p' lv (.inl (sgn (av_lit k) i) :: r) h Q) : av_wp sc cd pc lv (.inl i :: .inr (.inr (.inr k)) :: r) h Q := by
  subst hp
  refine av_wp_st1 hx (pc' := pc + 3) (lv' := lv) (st' := .inl (sgn (av_lit k) i) :: r) (h' := h) hk ?_ hw
  rw [hs]
  simp only [av_lib]
  rw [if_pos ⟨Nat.le_of_ble_eq_true hr, hn, av_inO hi⟩, av_rgw ⟨by omega, by omega⟩]
  unfold sgn
  rw [if_pos hi.2.1]
theorem lit_v : ∀ k, k < 20 → (av_lit k).length ≤ 60 ∧ ∀ c ∈ av_lit k, 32 ≤ c ∧ c ≤ 122 := by decide +kernel
theorem sgn_r {k : Nat} (hk : k < 20) (i : Int) : 0 ≤ sgn (av_lit k) i ∧ sgn (av_lit k) i ≤ 122 := by
  unfold sgn
  split
  · rw [List.getD_eq_getElem?_getD]
    cases e : (av_lit k)[i.toNat]? with
    | none => show (0 : Int) ≤ 0 ∧ (0 : Int) ≤ 122; omega
    | some c =>
      have := (lit_v k hk).2 c (List.mem_of_getElem? e)
      show (0 : Int) ≤ c ∧ c ≤ 122
      omega
  · omega
theorem pkf_le {b : Nat → Int} {f p : Nat} : ∀ (L : List Int) (i : Int) (a : Nat) (al : Bool), 0 ≤ i → -1 ≤ pkf b f p L i a al ∧ pkf b f p L i a al ≤ i + L.count 32 := by
  intro L
  induction L with
  | nil =>
    intro i a al hi
    show -1 ≤ (if al = true ∧ a = p then i else -1) ∧ (if al = true ∧ a = p then i else -1) ≤ i + 0
    split <;> omega
  | cons c cs ih =>
    intro i a al hi
    show -1 ≤ (if c = 32 then (if al = true ∧ a = p then i else pkf b f p cs (i + 1) f true) else pkf b f p cs i (a + 1) (al && decide (a < p ∧ b a = c))) ∧ (if c = 32 then (if al = true ∧ a = p then i else pkf b f p cs (i + 1) f true) else pkf b f p cs i (a + 1) (al && decide (a < p ∧ b a = c))) ≤ i + ((c :: cs).count 32 : Nat)
    by_cases e : c = 32
    · subst e
      rw [if_pos rfl, List.count_cons_self]
      split
      · omega
      · have := ih (i + 1) f true (by omega)
        omega
    · rw [if_neg e, List.count_cons_of_ne e]
      exact ih i (a + 1) _ hi
theorem pkv_le {b : Nat → Int} {t : TT} (n c : Nat) (e : (av_lit n).count 32 = c) : -1 ≤ pkv b t n ∧ pkv b t n ≤ c := by
  unfold pkv
  split
  · have := pkf_le (b := b) (f := t.1) (p := t.2.1) (av_lit n) 0 t.1 true (by omega)
    rw [e] at this
    omega
  · omega
