/-! THE START: both objects made -/
theorem av_wp_cl {cd : List (Nat × av_E)} {lv : av_L} {h : av_H} {Q : Option av_V → av_H → Prop} (n : Nat) (v : Option av_V) (h' : av_H) (hr : av_run av_PP none n cd 0 lv [] h = some (v, h')) (hq : Q v h') : av_wp none cd 0 lv [] h Q := fun _ => ⟨n, v, h', hr, hq⟩
theorem av_get {o : Option (Option av_V × av_H)} {d : av_H} (f : Option av_V → Bool) (hf : (match o with
    | some q => f q.1
    | none => false) = true) : ∃ v, f v = true ∧ o = some (v, (o.getD (none, d)).2) := by
  cases o with
  | none => cases hf
  | some q => exact ⟨q.1, hf, rfl⟩
def av_isN : Option av_V → Bool
  | none => true
  | _ => false
theorem av_isN_eq {v : Option av_V} (h : av_isN v = true) : v = none := by
  cases v with
  | none => rfl
  | some u => cases h
def av_h1 : av_H := ((av_run av_PP none 4000 cd_93 0 [some (.inr (.inr (.inl (some 0))))] [] (av_newO 7 9 av_h0)).getD (none, av_h0)).2
set_option maxRecDepth 100000 in
set_option maxHeartbeats 8000000 in
theorem av_h1_ok : av_run av_PP none 4000 cd_93 0 [some (.inr (.inr (.inl (some 0))))] [] (av_newO 7 9 av_h0) = some (none, av_h1) := by
  obtain ⟨v, hv, h⟩ := av_get (o := av_run av_PP none 4000 cd_93 0 [some (.inr (.inr (.inl (some 0))))] [] (av_newO 7 9 av_h0)) (d := av_h0) av_isN (by decide +kernel)
  rw [av_isN_eq hv] at h
  exact h
def av_h3 : av_H := ((av_run av_PP none 4000 cd_126 0 [some (.inr (.inr (.inl (some 77))))] [] (av_newO 8 63 av_h1)).getD (none, av_h0)).2
set_option maxRecDepth 100000 in
set_option maxHeartbeats 8000000 in
theorem av_h3_ok : av_run av_PP none 4000 cd_126 0 [some (.inr (.inr (.inl (some 77))))] [] (av_newO 8 63 av_h1) = some (none, av_h3) := by
  obtain ⟨v, hv, h⟩ := av_get (o := av_run av_PP none 4000 cd_126 0 [some (.inr (.inr (.inl (some 77))))] [] (av_newO 8 63 av_h1)) (d := av_h0) av_isN (by decide +kernel)
  rw [av_isN_eq hv] at h
  exact h
set_option maxRecDepth 100000 in
set_option maxHeartbeats 8000000 in
theorem h3_82 : hA av_h3 82 = fun _ => 0 := rfl
set_option maxRecDepth 100000 in
set_option maxHeartbeats 8000000 in
theorem h3_2 : hA av_h3 2 = fun _ => 0 := rfl
