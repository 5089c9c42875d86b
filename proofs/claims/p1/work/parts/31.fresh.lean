/-! ONE CALL ON A FRESH OBJECT -/
theorem av_wp_ck {sc : av_Sr} {cd : List (Nat × av_E)} {pc : Nat} {lv : av_L} {st : List av_V} {h : av_H} {Q : Option av_V → av_H → Prop} (x : av_E) (mL : Nat) (cdj : List (Nat × av_E)) (vs r : List av_V) (lv' : av_L) (hx : cd.lookup pc = some x) (hk : av_kd x = 2) (hM : av_PP x.2.2.1 = some (mL, cdj)) (hp : av_pop x st h = some (vs, r)) (hl : (av_args vs).length ≤ mL) (he : av_ent mL vs = lv')
    (hc : av_wp none cdj 0 lv' [] h (fun v h' => av_wp sc cd (pc + 3) lv (v.toList ++ r) h' Q)) : av_wp sc cd pc lv st h Q := by
  subst he
  exact av_wp_call hx hk hM (fun _ => hp) hl hc (fun v h' hq => hq)
theorem av_wp_tout {sc : av_Sr} {cd : List (Nat × av_E)} {pc t : Nat} {lv : av_L} {r : List av_V} {h : av_H} {Q : Option av_V → av_H → Prop} {y : av_E} {x d lo hi : Int} {offs : Array Int} (hx : cd.lookup pc = some y) (hy : y.1 = .tableswitch d lo hi offs) (hc : av_w x < lo ∨ hi < av_w x) (ht : ((pc : Int) + d).toNat = t) (hw : av_wp sc cd t lv r h Q) : av_wp sc cd pc lv (.inl x :: r) h Q := by
  refine av_wp_seq 1 (pc' := t) (lv' := lv) (st' := r) (h' := h) ?_ hw
  obtain ⟨ins, ln, xa, xb, xc, xk⟩ := y
  dsimp only at hy
  subst hy
  simp only [av_seq, hx, av_kd, if_true, av_stp, if_pos hc, ht]
theorem av_wp_cl {cd : List (Nat × av_E)} {lv : av_L} {h : av_H} {Q : Option av_V → av_H → Prop} (n : Nat) (v : Option av_V) (h' : av_H) (hr : av_run av_PP none n cd 0 lv [] h = some (v, h')) (hq : Q v h') : av_wp none cd 0 lv [] h Q := fun _ => ⟨n, v, h', hr, hq⟩
theorem av_get {o : Option (Option av_V × av_H)} {d : av_H} (f : Option av_V → Bool) (hf : (match o with
    | some q => f q.1
    | none => false) = true) : ∃ v, f v = true ∧ o = some (v, (o.getD (none, d)).2) := by
  cases o with
  | none => cases hf
  | some q => exact ⟨q.1, hf, rfl⟩
theorem av_wp_st1 {sc : av_Sr} {cd : List (Nat × av_E)} {Q : Option av_V → av_H → Prop} {pc : Nat} {lv : av_L} {st : List av_V} {h : av_H} {x : av_E} (hx : cd.lookup pc = some x) {pc' : Nat} {lv' : av_L} {st' : List av_V} {h' : av_H} (hk : av_kd x = 0) (hs : av_stp sc x pc lv st h = some (pc', lv', st', h')) (hw : av_wp sc cd pc' lv' st' h' Q) : av_wp sc cd pc lv st h Q := by
  refine av_wp_seq 1 (pc' := pc') (lv' := lv') (st' := st') (h' := h') ?_ hw
  simp only [av_seq, hx, hk, if_true, hs]
def av_isN : Option av_V → Bool
  | none => true
  | _ => false
def av_is0 : Option av_V → Bool
  | some (.inl x) => decide (x = 0)
  | _ => false
theorem av_isN_eq {v : Option av_V} (h : av_isN v = true) : v = none := by
  cases v with
  | none => rfl
  | some u => cases h
theorem av_is0_eq {v : Option av_V} (h : av_is0 v = true) : v = some (.inl 0) := by
  rcases v with _ | (x | x | (_ | x) | x)
  · cases h
  · rw [of_decide_eq_true h]
  · cases h
  · cases h
  · cases h
  · cases h
def av_h1 : av_H := ((av_run av_PP none 4000 cd_93 0 [some (.inr (.inr (.inl (some 0))))] [] (av_newO 7 9 av_h0)).getD (none, av_h0)).2
set_option maxRecDepth 100000 in
set_option maxHeartbeats 8000000 in
theorem av_h1_ok : av_run av_PP none 4000 cd_93 0 [some (.inr (.inr (.inl (some 0))))] [] (av_newO 7 9 av_h0) = some (none, av_h1) := by
  obtain ⟨v, hv, h⟩ := av_get (o := av_run av_PP none 4000 cd_93 0 [some (.inr (.inr (.inl (some 0))))] [] (av_newO 7 9 av_h0)) (d := av_h0) av_isN (by decide +kernel)
  rw [av_isN_eq hv] at h
  exact h
def av_h3 : av_H := ((av_run av_PP none 4000 cd_126 0 [some (.inr (.inr (.inl (some 77))))] [] (av_newO 8 63 av_h1)).getD (none, av_h0)).2
set_option maxRecDepth 100000 in
set_option maxHeartbeats 8000000 in
theorem av_h3_ok : av_run av_PP none 4000 cd_126 0 [some (.inr (.inr (.inl (some 77))))] [] (av_newO 8 63 av_h1) = some (none, av_h3) := by
  obtain ⟨v, hv, h⟩ := av_get (o := av_run av_PP none 4000 cd_126 0 [some (.inr (.inr (.inl (some 77))))] [] (av_newO 8 63 av_h1)) (d := av_h0) av_isN (by decide +kernel)
  rw [av_isN_eq hv] at h
  exact h
def av_hI1 : av_H := ((av_run av_PP none 4000 cd_123 0 [some (.inr (.inr (.inl (some 0)))), none] [] av_h3).getD (none, av_h0)).2
set_option maxRecDepth 100000 in
set_option maxHeartbeats 8000000 in
theorem av_hI1_ok : av_run av_PP none 4000 cd_123 0 [some (.inr (.inr (.inl (some 0)))), none] [] av_h3 = some (some (.inl 0), av_hI1) := by
  obtain ⟨v, hv, h⟩ := av_get (o := av_run av_PP none 4000 cd_123 0 [some (.inr (.inr (.inl (some 0)))), none] [] av_h3) (d := av_h0) av_is0 (by decide +kernel)
  rw [av_is0_eq hv] at h
  exact h
