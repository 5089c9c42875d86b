/-! THE START: both objects made -/
theorem av_wp_cl {cd : List (Nat × av_E)} {lv : av_L} {h : av_H} {Q : Option av_V → av_H → Prop} (n : Nat) (v : Option av_V) (h' : av_H) (hr : av_run av_PP none n cd 0 lv [] h = some (v, h')) (hq : Q v h') : av_wp none cd 0 lv [] h Q := fun _ => ⟨n, v, h', hr, hq⟩
theorem av_get {o : Option (Option av_V × av_H)} {d : av_H} (f : Option av_V → Bool) (hf : (match o with
    | some q => f q.1
    | none => false) = true) : ∃ v, f v = true ∧ o = some (v, (o.getD (none, d)).2) := by
  cases o with
  | none => cases hf
  | some q => exact ⟨q.1, hf, rfl⟩
def av_isN : Option av_V → Bool
  | none => true
  | _ => false
theorem av_isN_eq {v : Option av_V} (h : av_isN v = true) : v = none := by
  cases v with
  | none => rfl
  | some u => cases h
def av_h1 : av_H := ((av_run av_PP none 4000 cd_93 0 [some (.inr (.inr (.inl (some 0))))] [] (av_newO 7 9 av_h0)).getD (none, av_h0)).2
set_option maxRecDepth 100000 in
set_option maxHeartbeats 8000000 in
theorem av_h1_ok : av_run av_PP none 4000 cd_93 0 [some (.inr (.inr (.inl (some 0))))] [] (av_newO 7 9 av_h0) = some (none, av_h1) := by
  obtain ⟨v, hv, h⟩ := av_get (o := av_run av_PP none 4000 cd_93 0 [some (.inr (.inr (.inl (some 0))))] [] (av_newO 7 9 av_h0)) (d := av_h0) av_isN (by decide +kernel)
  rw [av_isN_eq hv] at h
  exact h
def av_h3 : av_H := ((av_run av_PP none 4000 cd_126 0 [some (.inr (.inr (.inl (some 77))))] [] (av_newO 8 63 av_h1)).getD (none, av_h0)).2
set_option maxRecDepth 100000 in
set_option maxHeartbeats 8000000 in
theorem av_h3_ok : av_run av_PP none 4000 cd_126 0 [some (.inr (.inr (.inl (some 77))))] [] (av_newO 8 63 av_h1) = some (none, av_h3) := by
  obtain ⟨v, hv, h⟩ := av_get (o := av_run av_PP none 4000 cd_126 0 [some (.inr (.inr (.inl (some 77))))] [] (av_newO 8 63 av_h1)) (d := av_h0) av_isN (by decide +kernel)
  rw [av_isN_eq hv] at h
  exact h
set_option maxRecDepth 100000 in
set_option maxHeartbeats 16000000 in
theorem h3_z0 : hA av_h3 2 = (fun _ => 0) ∧ hA av_h3 6 = (fun _ => 0) ∧ hA av_h3 7 = (fun _ => 0) ∧ hA av_h3 8 = (fun _ => 0) ∧ hA av_h3 9 = (fun _ => 0) ∧ hA av_h3 10 = (fun _ => 0) ∧ hA av_h3 11 = (fun _ => 0) ∧ hA av_h3 12 = (fun _ => 0) ∧ hA av_h3 13 = (fun _ => 0) ∧ hA av_h3 15 = (fun _ => 0) ∧ hA av_h3 16 = (fun _ => 0) ∧ hA av_h3 17 = (fun _ => 0) ∧ hA av_h3 18 = (fun _ => 0) ∧ hA av_h3 19 = (fun _ => 0) ∧ hA av_h3 20 = (fun _ => 0) ∧ hA av_h3 23 = (fun _ => 0) ∧ hA av_h3 25 = (fun _ => 0) ∧ hA av_h3 30 = (fun _ => 0) ∧ hA av_h3 34 = (fun _ => 0) ∧ hA av_h3 47 = (fun _ => 0) ∧ hA av_h3 60 = (fun _ => 0) ∧ hA av_h3 73 = (fun _ => 0) ∧ hA av_h3 76 = (fun _ => 0) := ⟨rfl, rfl, rfl, rfl, rfl, rfl, rfl, rfl, rfl, rfl, rfl, rfl, rfl, rfl, rfl, rfl, rfl, rfl, rfl, rfl, rfl, rfl, rfl⟩
set_option maxRecDepth 100000 in
set_option maxHeartbeats 16000000 in
theorem h3_z1 : hA av_h3 78 = (fun _ => 0) ∧ hA av_h3 79 = (fun _ => 0) ∧ hA av_h3 80 = (fun _ => 0) ∧ hA av_h3 81 = (fun _ => 0) ∧ hA av_h3 82 = (fun _ => 0) ∧ hA av_h3 83 = (fun _ => 0) ∧ hA av_h3 84 = (fun _ => 0) ∧ hA av_h3 85 = (fun _ => 0) ∧ hA av_h3 86 = (fun _ => 0) ∧ hA av_h3 87 = (fun _ => 0) ∧ hA av_h3 88 = (fun _ => 0) ∧ hA av_h3 89 = (fun _ => 0) ∧ hA av_h3 90 = (fun _ => 0) ∧ hA av_h3 91 = (fun _ => 0) ∧ hA av_h3 92 = (fun _ => 0) ∧ hA av_h3 93 = (fun _ => 0) ∧ hA av_h3 94 = (fun _ => 0) := ⟨rfl, rfl, rfl, rfl, rfl, rfl, rfl, rfl, rfl, rfl, rfl, rfl, rfl, rfl, rfl, rfl, rfl⟩
set_option maxRecDepth 100000 in
set_option maxHeartbeats 16000000 in
theorem h3_z2 : hA av_h3 95 = (fun _ => 0) ∧ hA av_h3 96 = (fun _ => 0) ∧ hA av_h3 97 = (fun _ => 0) ∧ hA av_h3 98 = (fun _ => 0) ∧ hA av_h3 99 = (fun _ => 0) ∧ hA av_h3 100 = (fun _ => 0) ∧ hA av_h3 101 = (fun _ => 0) ∧ hA av_h3 102 = (fun _ => 0) ∧ hA av_h3 103 = (fun _ => 0) ∧ hA av_h3 104 = (fun _ => 0) ∧ hA av_h3 105 = (fun _ => 0) ∧ hA av_h3 106 = (fun _ => 0) ∧ hA av_h3 107 = (fun _ => 0) ∧ hA av_h3 108 = (fun _ => 0) := ⟨rfl, rfl, rfl, rfl, rfl, rfl, rfl, rfl, rfl, rfl, rfl, rfl, rfl, rfl⟩
set_option maxRecDepth 100000 in
set_option maxHeartbeats 16000000 in
theorem h3_z3 : hA av_h3 109 = (fun _ => 0) ∧ hA av_h3 110 = (fun _ => 0) ∧ hA av_h3 111 = (fun _ => 0) ∧ hA av_h3 112 = (fun _ => 0) ∧ hA av_h3 113 = (fun _ => 0) ∧ hA av_h3 114 = (fun _ => 0) ∧ hA av_h3 115 = (fun _ => 0) ∧ hA av_h3 116 = (fun _ => 0) ∧ hA av_h3 117 = (fun _ => 0) ∧ hA av_h3 118 = (fun _ => 0) ∧ hA av_h3 119 = (fun _ => 0) ∧ hA av_h3 120 = (fun _ => 0) ∧ hA av_h3 121 = (fun _ => 0) := ⟨rfl, rfl, rfl, rfl, rfl, rfl, rfl, rfl, rfl, rfl, rfl, rfl, rfl⟩
