/-! WHAT THE CLASS'S READERS DO, as functions of the place where they stand and of their rows -/
def ufil (r : Nat → Int) (lo hi : Nat) (v : Int) : Nat → Int := fun j => if lo ≤ j ∧ j < hi then v else r j
section
variable (b : Nat → Int) (lim : Nat)
def rsO (row : Nat) (t : TT) (r : Nat → Int) : TT × (Nat → Int) :=
  if pkv b t 1 = r (row + 1) then (cho b lim (fal t) 1, av_u1 r (row + 2) (pkv b (fal t) 1)) else (cho b lim t 1, av_u1 r (row + 2) (pkv b t 1))
abbrev fts (r : Nat → Int) (kind hand : Int) (s : Nat) : Prop :=
  (kind = 5 ∧ (r s = 0 ∨ r s = 3 ∨ r s = 2) ∧ r (s + 1) = hand) ∨ (kind ≠ 5 ∧ (r s = 0 ∨ r s = 3) ∧ ((kind = 7 ∧ r (s + 1) = hand) ∨ (kind ≠ 7 ∧ r (s + 2) = hand)))
def rsS (k : Nat) (kind : Int) (t : TT) (r : Nat → Int) : TT × (Nat → Int) :=
  if (0 ≤ vlv b t ∧ vlv b t < k) ∧ fts r kind (r (k * 21 + 1)) ((vlv b t).toNat * 21) then (adv b lim t, av_u1 r (k * 21 + 3) (vlv b t)) else (fal t, r)
def rsW (row : Nat) : Nat → TT → (Nat → Int) → TT × (Nat → Int)
  | 0, t, r => (t, r)
  | n + 1, t, r => if pkv b t 2 = -1 then (t, r) else rsW row n (nmt b lim (adv b lim t) 0 999) (av_u1 r (row + 10 + (pkv b t 2).toNat) (nmv b (adv b lim t) 0 999))
def rsT1 (row : Nat) (x : TT × (Nat → Int)) : TT × (Nat → Int) :=
  if pkv b x.1 3 = -1 then x else (nmt b lim (adv b lim x.1) 0 1999, av_u1 x.2 (row + 5) (nmv b (adv b lim x.1) 0 1999))
def rsT2 (row : Nat) (ah : Int) (x : TT × (Nat → Int)) : TT × (Nat → Int) :=
  if pkv b x.1 4 = -1 then x else (nmt b lim (adv b lim x.1) 0 (ah - 1), av_u1 x.2 (row + 6) (nmv b (adv b lim x.1) 0 (ah - 1)))
def rsT (row : Nat) (ah : Int) (t : TT) (r : Nat → Int) : TT × (Nat → Int) := rsT2 b lim row ah (rsT1 b lim row (rsW b lim row 900 t r))
def rsB0 (row : Nat) (r : Nat → Int) : Nat → Int := if 0 ≤ r (row + 3) ∧ r (row + 3) < 12 then av_u1 r (row + 2) (r ((r (row + 3)).toNat * 21 + 1)) else r
def rsB (row : Nat) (t : TT) (r : Nat → Int) : TT × (Nat → Int) := rsW b lim row 900 (if pkv b t 2 = -1 then fal t else t) (rsB0 row (av_u1 r row 3))
def mn2 (x y : Int) : Int := if y < x then y else x
def rsP1 (row i : Nat) (most v : Int) (t : TT) (r : Nat → Int) : TT × (Nat → Int) :=
  if pkv b t 8 = -1 then (t, r) else (nmt b lim (adv b lim t) v (mn2 most (v + 15)), av_u1 r (row + 15 + i) (nmv b (adv b lim t) v (mn2 most (v + 15)) - v + 1))
def rsP (row i : Nat) (most : Int) (t : TT) (r : Nat → Int) : TT × (Nat → Int) := rsP1 b lim row i most (nmv b t 0 most) (nmt b lim t 0 most) (av_u1 r (row + 7 + i) (nmv b t 0 most))
def rsM1 (row : Nat) (x : TT × (Nat → Int)) : TT × (Nat → Int) := if pkv b x.1 10 = -1 then x else rsP b lim row 2 999 (adv b lim x.1) x.2
def rsM2 (row : Nat) (x : TT × (Nat → Int)) : TT × (Nat → Int) := if pkv b x.1 11 = -1 then x else (adv b lim x.1, av_u1 x.2 (row + 18) 2)
def rsM0 (row : Nat) (t : TT) (r : Nat → Int) : TT × (Nat → Int) := rsP b lim row 0 1999 (cho b lim (cho b lim t 6) 7) (av_u1 r (row + 4) (pkv b t 6))
def rsM3 (row : Nat) (x : TT × (Nat → Int)) : TT × (Nat → Int) := rsM2 b lim row (rsM1 b lim row (rsP b lim row 1 999 (cho b lim x.1 9) x.2))
def rsM (row : Nat) (t : TT) (r : Nat → Int) : TT × (Nat → Int) := if pkv b t 6 ≤ 1 then rsM3 b lim row (rsM0 b lim row t r) else rsM0 b lim row t r
def rs0 (k : Nat) (r : Nat → Int) : Nat → Int := ufil (ufil (ufil r (k * 21) (k * 21 + 21) (-1)) (k * 21 + 7) (k * 21 + 10) 0) (k * 21 + 15) (k * 21 + 21) 0
def rsK (t : TT) : Int := if pkv b t 0 ≤ 2 then pkv b t 0 else pkv b t 0 + 1
def rs1 (k : Nat) (t : TT) (r : Nat → Int) : TT × (Nat → Int) := (cho b lim (cho b lim t 0) 1, av_u1 (av_u1 (rs0 k r) (k * 21) (rsK b t)) (k * 21 + 1) (pkv b (cho b lim t 0) 1))
def rs2 (k : Nat) (kind : Int) (x : TT × (Nat → Int)) : TT × (Nat → Int) := if kind = 0 ∨ kind = 1 then rsO b lim (k * 21) x.1 x.2 else rsS b lim k kind x.1 x.2
def rs3 (k : Nat) (ah kind : Int) (x : TT × (Nat → Int)) : TT × (Nat → Int) := if kind = 0 then rsT b lim (k * 21) ah x.1 x.2 else x
def rs4 (k : Nat) (kind : Int) (x : TT × (Nat → Int)) : TT × (Nat → Int) := if kind = 2 then (if pkv b x.1 5 = -1 then x else rsB b lim (k * 21) (adv b lim x.1) x.2) else x
def rs5 (k : Nat) (x : TT × (Nat → Int)) : TT × (Nat → Int) := (sem b lim (rsM b lim (k * 21) x.1 x.2).1, (rsM b lim (k * 21) x.1 x.2).2)
/-- one saying -/
def rsy (k : Nat) (ah : Int) (t : TT) (r : Nat → Int) : TT × (Nat → Int) := rs5 b lim k (rs4 b lim k (rsK b t) (rs3 b lim k ah (rsK b t) (rs2 b lim k (rsK b t) (rs1 b lim k t r))))
end
section
variable {sc : av_Sr} {cd : List (Nat × av_E)} {Q : Option av_V → av_H → Prop} {pc p' : Nat} {lv : av_L} {r' : List av_V} {g h : av_H} {b r d : Nat → Int} {lim : Nat} {t : TT}
theorem ct_w23 {j : Nat} {v : Int} (C : CT b lim t r d h) (hv : -2000 ≤ v ∧ v ≤ 100000) : CT b lim t (av_u1 r j v) d (hwA h 23 j v) := by
  refine ⟨C.1, (hA_ne (by decide)).trans C.2.1, C.2.2.1, C.2.2.2.1, C.2.2.2.2.1, C.2.2.2.2.2.1, C.2.2.2.2.2.2.1, C.2.2.2.2.2.2.2.1, ?_, (hA_ne (by decide)).trans (ct_d C), ct_wf C, fun q => ?_, ct_dv C⟩
  case refine_2 =>
    unfold av_u1
    split
    · exact hv
    · exact ct_rv C q
  rw [← ct_r C]
  funext q
  show av_u2 h.2.2.2.1 23 j v 23 q = av_u1 (hA h 23) j v q
  unfold av_u2 av_u1
  by_cases e : q = j
  · rw [if_pos ⟨rfl, e⟩, if_pos e]
  · rw [if_neg (fun z => e z.2), if_neg e]
theorem ct_as {v x : Int} (hx : cd.lookup pc = some (av_q (.iastore))) (hp : pc + 1 = p') (C : CT b lim t r d h) (F : FT g h) (k : Nat) (e : x = (k : Int)) (hk : k < 252) (hv : -2000 ≤ v ∧ v ≤ 100000) (hw : ∀ h', CT b lim t (av_u1 r k v) d h' → FT g h' → av_wp sc cd p' lv r' h' Q) : av_wp sc cd pc lv (.inl v :: .inl x :: .inr (.inr (.inl (some 23))) :: r') h Q := by
  subst e
  exact wq_as (n := 252) hx hp (ly_k C.1 23 rfl) (by omega) (hw _ (ct_w23 C hv) (FT_wA F (Or.inl rfl)))
theorem ct_fil {lo hi : Nat} {v : Int} (C : CT b lim t r d h) (F : FT g h) (hv : -2000 ≤ v ∧ v ≤ 100000) : CT b lim t (ufil r lo hi v) d (hfil h 23 lo hi v) ∧ FT g (hfil h 23 lo hi v) := by
  have E : ∀ q, q ≠ 23 → hA (hfil h 23 lo hi v) q = hA h q := fun q hq => by
    funext j
    show (if q = 23 ∧ lo ≤ j ∧ j < hi then v else h.2.2.2.1 q j) = _
    rw [if_neg (fun z => hq z.1)]
  refine ⟨⟨C.1, (E 2 (by decide)).trans C.2.1, C.2.2.1, C.2.2.2.1, C.2.2.2.2.1, C.2.2.2.2.2.1, C.2.2.2.2.2.2.1, C.2.2.2.2.2.2.2.1, ?_, (E 25 (by decide)).trans (ct_d C), ct_wf C, fun q => ?_, ct_dv C⟩, F.1, F.2.1, F.2.2.1, F.2.2.2.1, F.2.2.2.2.1, F.2.2.2.2.2.1, fun q h1 h2 => (E q h1).trans (F.2.2.2.2.2.2 q h1 h2)⟩
  case refine_2 =>
    unfold ufil
    split
    · exact hv
    · exact ct_rv C q
  rw [← ct_r C]
  funext j
  show (if 23 = 23 ∧ lo ≤ j ∧ j < hi then v else h.2.2.2.1 23 j) = ufil (hA h 23) lo hi v j
  unfold ufil
  by_cases e : lo ≤ j ∧ j < hi
  · rw [if_pos ⟨rfl, e⟩, if_pos e]
  · rw [if_neg (fun z => e z.2), if_neg e]
end
theorem wq_mne {sc : av_Sr} {cd : List (Nat × av_E)} {Q : Option av_V → av_H → Prop} {pc p' : Nat} {lv : av_L} {r : List av_V} {h : av_H} {ins : Instr} {x y : Int} (hx : cd.lookup pc = some (av_qa ins 1002)) (hp : pc + 3 = p') (hk : av_kd (av_qa ins 1002) = 0) (hs : ∀ lv st, av_stp sc (av_qa ins 1002) pc lv st h = av_lib 1002 pc lv st h) (hr : Nat.ble (r.map av_cat).sum 8 = true) (rx : av_rg x) (ry : av_rg y) (hw : av_wp sc cd p' lv (.inl (if y < x then y else x) :: r) h Q) : av_wp sc cd pc lv (.inl y :: .inl x :: r) h Q := by
  subst hp
  refine av_wp_st1 hx (pc' := pc + 3) (lv' := lv) (st' := .inl (if y < x then y else x) :: r) (h' := h) hk ?_ hw
  rw [hs]
  simp only [av_lib]
  rw [if_pos (Nat.le_of_ble_eq_true hr), av_rgw rx, av_rgw ry]
