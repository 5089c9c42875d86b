/-! THE READERS OF LAWS, as functions of the place and of the row of what is told -/
section
variable (b : Nat → Int) (lim : Nat)
def rlY3 (w v : Int) (d : Nat → Int) : Nat → Int := if w = 2 ∨ w = 3 then av_u1 d 2 v else d
def rlY2 (w v : Int) (d : Nat → Int) : Nat → Int := if w = 1 ∨ w = 3 then av_u1 d 1 v else d
def rlY1 (w v : Int) (d : Nat → Int) : Nat → Int := if w = 0 ∨ w = 3 then av_u1 d 0 v else d
def rlY (t : TT) (d : Nat → Int) : TT × (Nat → Int) := (cho b lim (cho b lim t 13) 14, rlY3 (pkv b t 13) (pkv b (cho b lim t 13) 14) (rlY2 (pkv b t 13) (pkv b (cho b lim t 13) 14) (rlY1 (pkv b t 13) (pkv b (cho b lim t 13) 14) d)))
def rlC (o n : Nat) (t : TT) (d : Nat → Int) : TT × (Nat → Int) := (cho b lim t n, av_u1 d o (pkv b t n))
def rlN (o : Nat) (t : TT) (d : Nat → Int) : TT × (Nat → Int) := (nmt b lim t 0 999, av_u1 d o (nmv b t 0 999))
def rlK (k : Int) (t : TT) (d : Nat → Int) : TT × (Nat → Int) :=
  if k = 0 then rlY b lim t d else if k = 1 then rlC b lim 3 14 t d else if k = 2 then rlC b lim 4 14 t d else if k = 3 then rlC b lim 5 14 t d else if k = 4 then rlC b lim 6 15 t d else if k = 5 then rlN b lim 7 t d else if k = 6 then rlN b lim 8 t d else if k = 7 then rlC b lim 9 16 t d else if k = 8 then rlC b lim 10 17 t d else if k = 9 then rlC b lim 11 18 t d else if k = 10 then rlC b lim 12 19 t d else (t, d)
/-- one rule -/
def rl1 (t : TT) (d : Nat → Int) : TT × (Nat → Int) := (sem b lim (rlK b lim (pkv b t 12) (cho b lim t 12) d).1, (rlK b lim (pkv b t 12) (cho b lim t 12) d).2)
/-- all of them: how many, the place, what is told -/
def rlf : Nat → Nat → TT → (Nat → Int) → Nat × TT × (Nat → Int)
  | 0, n, t, d => (n, t, d)
  | f + 1, n, t, d => if t.2.2.2 = -1 ∧ t.2.2.1 ≠ 0 then (if n = 20 then (n, fal t, d) else rlf f (n + 1) (rl1 b lim t d).1 (rl1 b lim t d).2) else (n, t, d)
end
section
variable {b : Nat → Int} {lim : Nat} {t : TT} {d : Nat → Int}
theorem rlK_w {k : Int} (h : t.2.2.2 ≠ -1) : (rlK b lim k t d).1 = t := by
  unfold rlK
  (repeat' split) <;> first | rfl | exact cho_w h | exact nmt_w h | skip
  show cho b lim (cho b lim t 13) 14 = t
  rw [cho_w h, cho_w h]
theorem rl1_f (e : pkv b t 12 = -1) : rl1 b lim t d = (fal t, d) := by
  unfold rl1
  have e1 : cho b lim t 12 = fal t := if_pos e
  have e2 : rlK b lim (-1) (fal t) d = (fal t, d) := by simp [rlK]
  rw [e1, e, e2]
  show (sem b lim (fal t), d) = _
  rw [sem_w fal_ne]
theorem pkP_12 (k : TKW b t) : pkv b t 12 = (if (t.2.2.2 = -1 ∧ t.2.2.1 = 1 ∧ txtv b t = 18379) then 0 else (if (t.2.2.2 = -1 ∧ t.2.2.1 = 1 ∧ txtv b t = 8094240) then 1 else (if (t.2.2.2 = -1 ∧ t.2.2.1 = 1 ∧ txtv b t = 40187) then 2 else (if (t.2.2.2 = -1 ∧ t.2.2.1 = 1 ∧ txtv b t = 393) then 3 else (if (t.2.2.2 = -1 ∧ t.2.2.1 = 1 ∧ txtv b t = 168727) then 4 else (if (t.2.2.2 = -1 ∧ t.2.2.1 = 1 ∧ txtv b t = 6409157) then 5 else (if (t.2.2.2 = -1 ∧ t.2.2.1 = 1 ∧ txtv b t = 7496615453) then 6 else (if (t.2.2.2 = -1 ∧ t.2.2.1 = 1 ∧ txtv b t = 2045) then 7 else (if (t.2.2.2 = -1 ∧ t.2.2.1 = 1 ∧ txtv b t = 129532) then 8 else (if (t.2.2.2 = -1 ∧ t.2.2.1 = 1 ∧ txtv b t = 82516) then 9 else (if (t.2.2.2 = -1 ∧ t.2.2.1 = 1 ∧ txtv b t = 361379) then 10 else -1))))))))))) := by
  by_cases h2 : t.2.2.2 = -1 ∧ t.2.2.1 = 1
  · have z3 : pkv b t 12 = pkf b t.1 t.2.1 (av_lit 12) 0 t.1 true := if_pos h2
    have z1 : txtv b t = txt b t.1 (t.2.1 - t.1) := if_pos h2.2
    have hP : ∀ w : Int, (t.2.2.2 = -1 ∧ t.2.2.1 = 1 ∧ txtv b t = w) = (txt b t.1 (t.2.1 - t.1) = w) := fun w => propext ⟨fun z => z1.symm.trans z.2.2, fun z => ⟨h2.1, h2.2, z1.trans z⟩⟩
    simp only [hP]
    rw [z3, ltw_12 k.1 (k.2.1 h2.2)]
  · have hP : ∀ w : Int, (t.2.2.2 = -1 ∧ t.2.2.1 = 1 ∧ txtv b t = w) = False := fun w => propext ⟨fun z => h2 ⟨z.1, z.2.1⟩, fun z => z.elim⟩
    simp only [hP, if_false]
    exact if_neg h2
theorem pkP_13 (k : TKW b t) : pkv b t 13 = (if (t.2.2.2 = -1 ∧ t.2.2.1 = 1 ∧ txtv b t = 326396) then 0 else (if (t.2.2.2 = -1 ∧ t.2.2.1 = 1 ∧ txtv b t = 459761) then 1 else (if (t.2.2.2 = -1 ∧ t.2.2.1 = 1 ∧ txtv b t = 7219835) then 2 else (if (t.2.2.2 = -1 ∧ t.2.2.1 = 1 ∧ txtv b t = 1065) then 3 else -1)))) := by
  by_cases h2 : t.2.2.2 = -1 ∧ t.2.2.1 = 1
  · have z3 : pkv b t 13 = pkf b t.1 t.2.1 (av_lit 13) 0 t.1 true := if_pos h2
    have z1 : txtv b t = txt b t.1 (t.2.1 - t.1) := if_pos h2.2
    have hP : ∀ w : Int, (t.2.2.2 = -1 ∧ t.2.2.1 = 1 ∧ txtv b t = w) = (txt b t.1 (t.2.1 - t.1) = w) := fun w => propext ⟨fun z => z1.symm.trans z.2.2, fun z => ⟨h2.1, h2.2, z1.trans z⟩⟩
    simp only [hP]
    rw [z3, ltw_13 k.1 (k.2.1 h2.2)]
  · have hP : ∀ w : Int, (t.2.2.2 = -1 ∧ t.2.2.1 = 1 ∧ txtv b t = w) = False := fun w => propext ⟨fun z => h2 ⟨z.1, z.2.1⟩, fun z => z.elim⟩
    simp only [hP, if_false]
    exact if_neg h2
theorem pkP_14 (k : TKW b t) : pkv b t 14 = (if (t.2.2.2 = -1 ∧ t.2.2.1 = 1 ∧ txtv b t = 378020) then 0 else (if (t.2.2.2 = -1 ∧ t.2.2.1 = 1 ∧ txtv b t = 70340) then 1 else (if (t.2.2.2 = -1 ∧ t.2.2.1 = 1 ∧ txtv b t = 357970) then 2 else -1))) := by
  by_cases h2 : t.2.2.2 = -1 ∧ t.2.2.1 = 1
  · have z3 : pkv b t 14 = pkf b t.1 t.2.1 (av_lit 14) 0 t.1 true := if_pos h2
    have z1 : txtv b t = txt b t.1 (t.2.1 - t.1) := if_pos h2.2
    have hP : ∀ w : Int, (t.2.2.2 = -1 ∧ t.2.2.1 = 1 ∧ txtv b t = w) = (txt b t.1 (t.2.1 - t.1) = w) := fun w => propext ⟨fun z => z1.symm.trans z.2.2, fun z => ⟨h2.1, h2.2, z1.trans z⟩⟩
    simp only [hP]
    rw [z3, ltw_14 k.1 (k.2.1 h2.2)]
  · have hP : ∀ w : Int, (t.2.2.2 = -1 ∧ t.2.2.1 = 1 ∧ txtv b t = w) = False := fun w => propext ⟨fun z => h2 ⟨z.1, z.2.1⟩, fun z => z.elim⟩
    simp only [hP, if_false]
    exact if_neg h2
theorem pkP_15 (k : TKW b t) : pkv b t 15 = (if (t.2.2.2 = -1 ∧ t.2.2.1 = 1 ∧ txtv b t = 131360) then 0 else (if (t.2.2.2 = -1 ∧ t.2.2.1 = 1 ∧ txtv b t = 1250362) then 1 else -1)) := by
  by_cases h2 : t.2.2.2 = -1 ∧ t.2.2.1 = 1
  · have z3 : pkv b t 15 = pkf b t.1 t.2.1 (av_lit 15) 0 t.1 true := if_pos h2
    have z1 : txtv b t = txt b t.1 (t.2.1 - t.1) := if_pos h2.2
    have hP : ∀ w : Int, (t.2.2.2 = -1 ∧ t.2.2.1 = 1 ∧ txtv b t = w) = (txt b t.1 (t.2.1 - t.1) = w) := fun w => propext ⟨fun z => z1.symm.trans z.2.2, fun z => ⟨h2.1, h2.2, z1.trans z⟩⟩
    simp only [hP]
    rw [z3, ltw_15 k.1 (k.2.1 h2.2)]
  · have hP : ∀ w : Int, (t.2.2.2 = -1 ∧ t.2.2.1 = 1 ∧ txtv b t = w) = False := fun w => propext ⟨fun z => h2 ⟨z.1, z.2.1⟩, fun z => z.elim⟩
    simp only [hP, if_false]
    exact if_neg h2
theorem pkP_16 (k : TKW b t) : pkv b t 16 = (if (t.2.2.2 = -1 ∧ t.2.2.1 = 1 ∧ txtv b t = 393) then 0 else (if (t.2.2.2 = -1 ∧ t.2.2.1 = 1 ∧ txtv b t = 10354323) then 1 else -1)) := by
  by_cases h2 : t.2.2.2 = -1 ∧ t.2.2.1 = 1
  · have z3 : pkv b t 16 = pkf b t.1 t.2.1 (av_lit 16) 0 t.1 true := if_pos h2
    have z1 : txtv b t = txt b t.1 (t.2.1 - t.1) := if_pos h2.2
    have hP : ∀ w : Int, (t.2.2.2 = -1 ∧ t.2.2.1 = 1 ∧ txtv b t = w) = (txt b t.1 (t.2.1 - t.1) = w) := fun w => propext ⟨fun z => z1.symm.trans z.2.2, fun z => ⟨h2.1, h2.2, z1.trans z⟩⟩
    simp only [hP]
    rw [z3, ltw_16 k.1 (k.2.1 h2.2)]
  · have hP : ∀ w : Int, (t.2.2.2 = -1 ∧ t.2.2.1 = 1 ∧ txtv b t = w) = False := fun w => propext ⟨fun z => h2 ⟨z.1, z.2.1⟩, fun z => z.elim⟩
    simp only [hP, if_false]
    exact if_neg h2
theorem pkP_17 (k : TKW b t) : pkv b t 17 = (if (t.2.2.2 = -1 ∧ t.2.2.1 = 1 ∧ txtv b t = 3379448) then 0 else (if (t.2.2.2 = -1 ∧ t.2.2.1 = 1 ∧ txtv b t = 237458) then 1 else (if (t.2.2.2 = -1 ∧ t.2.2.1 = 1 ∧ txtv b t = 286880) then 2 else -1))) := by
  by_cases h2 : t.2.2.2 = -1 ∧ t.2.2.1 = 1
  · have z3 : pkv b t 17 = pkf b t.1 t.2.1 (av_lit 17) 0 t.1 true := if_pos h2
    have z1 : txtv b t = txt b t.1 (t.2.1 - t.1) := if_pos h2.2
    have hP : ∀ w : Int, (t.2.2.2 = -1 ∧ t.2.2.1 = 1 ∧ txtv b t = w) = (txt b t.1 (t.2.1 - t.1) = w) := fun w => propext ⟨fun z => z1.symm.trans z.2.2, fun z => ⟨h2.1, h2.2, z1.trans z⟩⟩
    simp only [hP]
    rw [z3, ltw_17 k.1 (k.2.1 h2.2)]
  · have hP : ∀ w : Int, (t.2.2.2 = -1 ∧ t.2.2.1 = 1 ∧ txtv b t = w) = False := fun w => propext ⟨fun z => h2 ⟨z.1, z.2.1⟩, fun z => z.elim⟩
    simp only [hP, if_false]
    exact if_neg h2
theorem pkP_18 (k : TKW b t) : pkv b t 18 = (if (t.2.2.2 = -1 ∧ t.2.2.1 = 1 ∧ txtv b t = 286880) then 0 else (if (t.2.2.2 = -1 ∧ t.2.2.1 = 1 ∧ txtv b t = 18379) then 1 else -1)) := by
  by_cases h2 : t.2.2.2 = -1 ∧ t.2.2.1 = 1
  · have z3 : pkv b t 18 = pkf b t.1 t.2.1 (av_lit 18) 0 t.1 true := if_pos h2
    have z1 : txtv b t = txt b t.1 (t.2.1 - t.1) := if_pos h2.2
    have hP : ∀ w : Int, (t.2.2.2 = -1 ∧ t.2.2.1 = 1 ∧ txtv b t = w) = (txt b t.1 (t.2.1 - t.1) = w) := fun w => propext ⟨fun z => z1.symm.trans z.2.2, fun z => ⟨h2.1, h2.2, z1.trans z⟩⟩
    simp only [hP]
    rw [z3, ltw_18 k.1 (k.2.1 h2.2)]
  · have hP : ∀ w : Int, (t.2.2.2 = -1 ∧ t.2.2.1 = 1 ∧ txtv b t = w) = False := fun w => propext ⟨fun z => h2 ⟨z.1, z.2.1⟩, fun z => z.elim⟩
    simp only [hP, if_false]
    exact if_neg h2
theorem pkP_19 (k : TKW b t) : pkv b t 19 = (if (t.2.2.2 = -1 ∧ t.2.2.1 = 1 ∧ txtv b t = 798894590) then 0 else (if (t.2.2.2 = -1 ∧ t.2.2.1 = 1 ∧ txtv b t = 378020) then 1 else (if (t.2.2.2 = -1 ∧ t.2.2.1 = 1 ∧ txtv b t = 70340) then 2 else -1))) := by
  by_cases h2 : t.2.2.2 = -1 ∧ t.2.2.1 = 1
  · have z3 : pkv b t 19 = pkf b t.1 t.2.1 (av_lit 19) 0 t.1 true := if_pos h2
    have z1 : txtv b t = txt b t.1 (t.2.1 - t.1) := if_pos h2.2
    have hP : ∀ w : Int, (t.2.2.2 = -1 ∧ t.2.2.1 = 1 ∧ txtv b t = w) = (txt b t.1 (t.2.1 - t.1) = w) := fun w => propext ⟨fun z => z1.symm.trans z.2.2, fun z => ⟨h2.1, h2.2, z1.trans z⟩⟩
    simp only [hP]
    rw [z3, ltw_19 k.1 (k.2.1 h2.2)]
  · have hP : ∀ w : Int, (t.2.2.2 = -1 ∧ t.2.2.1 = 1 ∧ txtv b t = w) = False := fun w => propext ⟨fun z => h2 ⟨z.1, z.2.1⟩, fun z => z.elim⟩
    simp only [hP, if_false]
    exact if_neg h2
end
/-- the reference's choice of one of three -/
def on3 (b : Nat → Int) (t : TT) (w0 w1 w2 : Int) : Int := if (t.2.2.2 = -1 ∧ t.2.2.1 = 1 ∧ txtv b t = w0) then 0 else if (t.2.2.2 = -1 ∧ t.2.2.1 = 1 ∧ txtv b t = w1) then 1 else if (t.2.2.2 = -1 ∧ t.2.2.1 = 1 ∧ txtv b t = w2) then 2 else -1
section
variable {b : Nat → Int} {lim : Nat} {t : TT} {d : Nat → Int}
theorem on3_15 (k : TKW b t) : on3 b t 131360 1250362 (-9) = pkv b t 15 := by
  rw [pkP_15 k]
  unfold on3
  rw [if_neg (fun z : t.2.2.2 = -1 ∧ t.2.2.1 = 1 ∧ txtv b t = -9 => by have h := (txtv_r k).1; have z2 := z.2.2; omega)]
theorem on3_16 (k : TKW b t) : on3 b t 393 10354323 (-9) = pkv b t 16 := by
  rw [pkP_16 k]
  unfold on3
  rw [if_neg (fun z : t.2.2.2 = -1 ∧ t.2.2.1 = 1 ∧ txtv b t = -9 => by have h := (txtv_r k).1; have z2 := z.2.2; omega)]
theorem on3_18 (k : TKW b t) : on3 b t 286880 18379 (-9) = pkv b t 18 := by
  rw [pkP_18 k]
  unfold on3
  rw [if_neg (fun z : t.2.2.2 = -1 ∧ t.2.2.1 = 1 ∧ txtv b t = -9 => by have h := (txtv_r k).1; have z2 := z.2.2; omega)]
theorem on3_14 (k : TKW b t) : on3 b t 378020 70340 357970 = pkv b t 14 := (pkP_14 k).symm
theorem on3_17 (k : TKW b t) : on3 b t 3379448 237458 286880 = pkv b t 17 := (pkP_17 k).symm
theorem on3_19 (k : TKW b t) : on3 b t 798894590 378020 70340 = pkv b t 19 := (pkP_19 k).symm
theorem on3_13 (k : TKW b t) (z : ¬ (t.2.2.2 = -1 ∧ t.2.2.1 = 1 ∧ txtv b t = 1065)) : on3 b t 326396 459761 7219835 = pkv b t 13 := by
  rw [pkP_13 k, if_neg z]
  rfl
theorem pk13_3 (k : TKW b t) (z : t.2.2.2 = -1 ∧ t.2.2.1 = 1 ∧ txtv b t = 1065) : pkv b t 13 = 3 := by
  rw [pkP_13 k, if_neg (fun y => by have y1 := y.2.2; have z1 := z.2.2; omega), if_neg (fun y => by have y1 := y.2.2; have z1 := z.2.2; omega), if_neg (fun y => by have y1 := y.2.2; have z1 := z.2.2; omega), if_pos z]
end
/-! the reference's row of a law -/
def ML (b : Nat → Int) (lim : Nat) (t : TT) (x17 : Int) (A0 : Nat → Nat → Int) (at0 : Nat) (R : Nat → Int) (h : av_H) : Prop := MT b lim t x17 (hA h) h ∧ (∀ o, o < 14 → hA h 93 (at0 + o) = R o) ∧ (∀ a j, ¬ (a = 93 ∧ at0 ≤ j ∧ j < at0 + 14) → hA h a j = A0 a j)
def RL (t : TT) (R d : Nat → Int) : Prop := t.2.2.2 = -1 → ∀ o, o < 13 → R o = d o
section
variable {g h : av_H} {b : Nat → Int} {lim : Nat} {t t' : TT} {x17 : Int} {A0 : Nat → Nat → Int} {at0 : Nat} {R d : Nat → Int}
theorem ml_tok {h' : av_H} (M : ML b lim t x17 A0 at0 R h) (N : MT b lim t' x17 (hA h) h') : ML b lim t' x17 A0 at0 R h' := by
  have e : hA h' = hA h := ns_A N.1
  refine ⟨by rw [e]; exact N, ?_, ?_⟩
  · rw [e]; exact M.2.1
  · rw [e]; exact M.2.2
theorem ml_L (M : ML b lim t x17 A0 at0 R h) : LY h := M.1.1.1
theorem ml_wA {v : Int} (M : ML b lim t x17 A0 at0 R h) (o : Nat) (ho : o < 14) : ML b lim t x17 A0 at0 (av_u1 R o v) (hwA h 93 (at0 + o) v) := by
  refine ⟨mt_wA M.1 (by decide), fun q hq => ?_, fun a j hj => ?_⟩
  · rw [hA_wA]
    by_cases e : q = o
    · subst e; rw [if_pos ⟨rfl, rfl⟩]; exact (if_pos rfl).symm
    · rw [if_neg (by omega)]; exact (M.2.1 q hq).trans (if_neg e).symm
  · rw [hA_wA, if_neg (by omega)]
    exact M.2.2 a j hj
theorem rlr_t (X : RL t R d) (e : t'.2.2.2 = -1 → t.2.2.2 = -1) : RL t' R d := fun z => X (e z)
theorem rlr_u {o : Nat} {v v' : Int} (X : RL t R d) (e : t.2.2.2 = -1 → v = v') : RL t (av_u1 R o v) (av_u1 d o v') := fun z q hq => by
  by_cases e1 : q = o
  · subst e1; rw [u1_eq, u1_eq]; exact e z
  · rw [u1_ne e1, u1_ne e1]; exact X z q hq
theorem ml_0 (N : MT b lim t x17 (hA h) h) : ML b lim t x17 (hA h) at0 (fun o => hA h 93 (at0 + o)) h := ⟨N, fun _ _ => rfl, fun _ _ _ => rfl⟩
end
section
variable {sc : av_Sr} {cd : List (Nat × av_E)} {Q : Option av_V → av_H → Prop} {pc p' : Nat} {lv : av_L} {r' : List av_V} {g h : av_H} {b r d : Nat → Int} {lim : Nat} {t : TT} {x17 : Int} {A0 : Nat → Nat → Int} {at0 : Nat} {R : Nat → Int}
theorem ml_as {v x : Int} (hx : cd.lookup pc = some (av_q (.iastore))) (hp : pc + 1 = p') (M : ML b lim t x17 A0 at0 R h) (F : FD g h) (hi : at0 ≤ 960) (o : Nat) (ho : o < 14) (ex : x = (at0 : Int) + o) (hw : ∀ h', ML b lim t x17 A0 at0 (av_u1 R o v) h' → FD g h' → av_wp sc cd p' lv r' h' Q) : av_wp sc cd pc lv (.inl v :: .inl x :: .inr (.inr (.inl (some 93))) :: r') h Q := by
  have ex : x = ((at0 + o : Nat) : Int) := by omega
  subst ex
  exact wq_as (n := 980) hx hp (ly_k M.1.1.1 93 rfl) (by omega) (hw _ (ml_wA M o ho) (FD_wA F rfl))
theorem ct_w25 {j : Nat} {v : Int} (C : CT b lim t r d h) (hv : -2 ≤ v ∧ v ≤ 999) : CT b lim t r (av_u1 d j v) (hwA h 25 j v) := by
  refine ⟨C.1, (hA_ne (by decide)).trans C.2.1, C.2.2.1, C.2.2.2.1, C.2.2.2.2.1, C.2.2.2.2.2.1, C.2.2.2.2.2.2.1, C.2.2.2.2.2.2.2.1, (hA_ne (by decide)).trans (ct_r C), ?_, ct_wf C, ct_rv C, fun q => ?_⟩
  case refine_2 =>
    unfold av_u1
    split
    · exact hv
    · exact ct_dv C q
  rw [← ct_d C]
  funext q
  show av_u2 h.2.2.2.1 25 j v 25 q = av_u1 (hA h 25) j v q
  unfold av_u2 av_u1
  by_cases e : q = j
  · rw [if_pos ⟨rfl, e⟩, if_pos e]
  · rw [if_neg (fun z => e z.2), if_neg e]
theorem ct_ds {v x : Int} (hx : cd.lookup pc = some (av_q (.iastore))) (hp : pc + 1 = p') (C : CT b lim t r d h) (F : FT g h) (k : Nat) (e : x = (k : Int)) (hk : k < 14) (hv : -2 ≤ v ∧ v ≤ 999) (hw : ∀ h', CT b lim t r (av_u1 d k v) h' → FT g h' → av_wp sc cd p' lv r' h' Q) : av_wp sc cd pc lv (.inl v :: .inl x :: .inr (.inr (.inl (some 25))) :: r') h Q := by
  subst e
  exact wq_as (n := 14) hx hp (ly_k C.1 25 rfl) (by omega) (hw _ (ct_w25 C hv) (FT_wA F (Or.inr rfl)))
theorem ct_dfil {lo hi : Nat} {v : Int} (C : CT b lim t r d h) (F : FT g h) (hv : -2 ≤ v ∧ v ≤ 999) : CT b lim t r (ufil d lo hi v) (hfil h 25 lo hi v) ∧ FT g (hfil h 25 lo hi v) := by
  have E : ∀ q, q ≠ 25 → hA (hfil h 25 lo hi v) q = hA h q := fun q hq => by
    funext j
    show (if q = 25 ∧ lo ≤ j ∧ j < hi then v else h.2.2.2.1 q j) = _
    rw [if_neg (fun z => hq z.1)]
  refine ⟨⟨C.1, (E 2 (by decide)).trans C.2.1, C.2.2.1, C.2.2.2.1, C.2.2.2.2.1, C.2.2.2.2.2.1, C.2.2.2.2.2.2.1, C.2.2.2.2.2.2.2.1, (E 23 (by decide)).trans (ct_r C), ?_, ct_wf C, ct_rv C, fun q => ?_⟩, F.1, F.2.1, F.2.2.1, F.2.2.2.1, F.2.2.2.2.1, F.2.2.2.2.2.1, fun q h1 h2 => (E q h2).trans (F.2.2.2.2.2.2 q h1 h2)⟩
  case refine_2 =>
    unfold ufil
    split
    · exact hv
    · exact ct_dv C q
  rw [← ct_d C]
  funext j
  show (if 25 = 25 ∧ lo ≤ j ∧ j < hi then v else h.2.2.2.1 25 j) = ufil (hA h 25) lo hi v j
  unfold ufil
  by_cases e : lo ≤ j ∧ j < hi
  · rw [if_pos ⟨rfl, e⟩, if_pos e]
  · rw [if_neg (fun z => e z.2), if_neg e]
end
