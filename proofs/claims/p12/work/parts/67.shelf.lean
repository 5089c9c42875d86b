/-! A NEW SHELF -/
section
variable {sc : av_Sr} {cd : List (Nat × av_E)} {Q : Option av_V → av_H → Prop} {pc p' : Nat} {lv : av_L} {r : List av_V} {h : av_H}
theorem wq_nr {ins : Instr} {k m : Nat} {x : Int} (hx : cd.lookup pc = some (av_qa ins k)) (hp : pc + 3 = p') (hkd : av_kd (av_qa ins k) = 0) (hs : ∀ st, av_stp sc (av_qa ins k) pc lv st h = av_anew k pc lv st h) (hk : k = 30 ∨ k = 31) (ex : x = (m : Int)) (hm : m ≤ 1000) (hw : av_wp sc cd p' lv (.inr (.inr (.inl (some h.1))) :: r) (av_newR k m h) Q) : av_wp sc cd pc lv (.inl x :: r) h Q := by
  subst hp
  subst ex
  refine av_wp_st1 hx (pc' := pc + 3) (lv' := lv) (st' := .inr (.inr (.inl (some h.1))) :: r) (h' := av_newR k m h) hkd ?_ hw
  rw [hs]
  simp only [av_anew]
  rw [av_rgw (x := (m : Int)) ⟨by omega, by omega⟩, if_pos ⟨hk, by omega, by omega⟩]
  rfl
theorem wq_nm {ins : Instr} {n k : Nat} {x y : Int} (hx : cd.lookup pc = some (av_q ins)) (hp : pc + 4 = p') (hkd : av_kd (av_q ins) = 0) (hs : ∀ st, av_stp sc (av_q ins) pc lv st h = av_mnew pc lv st h) (ex : x = (n : Int)) (ey : y = (k : Int)) (hn : n ≤ 1000) (hk : k ≤ 1000) (hw : av_wp sc cd p' lv (.inr (.inr (.inl (some h.1))) :: r) (av_newM n k h) Q) : av_wp sc cd pc lv (.inl y :: .inl x :: r) h Q := by
  subst hp
  subst ex
  subst ey
  refine av_wp_st1 hx (pc' := pc + 4) (lv' := lv) (st' := .inr (.inr (.inl (some h.1))) :: r) (h' := av_newM n k h) hkd ?_ hw
  rw [hs]
  simp only [av_mnew]
  rw [av_rgw (x := (n : Int)) ⟨by omega, by omega⟩, av_rgw (x := (k : Int)) ⟨by omega, by omega⟩, if_pos ⟨⟨by omega, by omega⟩, by omega, by omega⟩]
  rfl
end
/-- the heap with a new shelf -/
def nsh (g : av_H) : av_H := hwF (hwF (hwF (hwG (av_newM 6 14 (hwG (av_newM 8 14 (hwG (av_newR 30 16 (av_newO 5 6 g)) g.1 0 (some (g.1 + 1)))) g.1 1 (some (g.1 + 2)))) g.1 2 (some (g.1 + 11))) g.1 3 (0)) g.1 4 (0)) g.1 5 (0)
theorem nsh_K {g : av_H} (q : Nat) : hK (nsh g) q = if q = g.1 + 11 then (32, 6) else if g.1 + 11 < q ∧ q < g.1 + 18 then (20, 14) else if q = g.1 + 2 then (32, 8) else if g.1 + 2 < q ∧ q < g.1 + 11 then (20, 14) else if q = g.1 + 1 then (30, 16) else if q = g.1 then (5, 0) else hK g q := by
  show (if q = g.1 + 11 then (32, 6) else if g.1 + 11 < q ∧ q < g.1 + 11 + 1 + 6 then (20, 14) else (if q = g.1 + 2 then (32, 8) else if g.1 + 2 < q ∧ q < g.1 + 2 + 1 + 8 then (20, 14) else av_u1 (av_u1 g.2.2.1 g.1 (5, 0)) (g.1 + 1) (30, 16) q)) = _
  rw [show g.1 + 11 + 1 + 6 = g.1 + 18 by omega, show g.1 + 2 + 1 + 8 = g.1 + 11 by omega]
  rfl
theorem nsh_R {g : av_H} (q : Nat) : hR (nsh g) q = if q = g.1 + 11 then (fun i => if i < 6 then some (g.1 + 11 + 1 + i) else none) else if q = g.1 + 2 then (fun i => if i < 8 then some (g.1 + 2 + 1 + i) else none) else if q = g.1 + 1 then (fun _ => none) else hR g q := rfl
theorem nsh_A {g : av_H} (q : Nat) : hA (nsh g) q = fun j => if g.1 + 11 < q ∧ q < g.1 + 18 then 0 else if g.1 + 2 < q ∧ q < g.1 + 11 then 0 else hA g q j := by
  funext j
  show (if g.1 + 11 < q ∧ q < g.1 + 11 + 1 + 6 then 0 else if g.1 + 2 < q ∧ q < g.1 + 2 + 1 + 8 then 0 else hA g q j) = _
  rw [show g.1 + 11 + 1 + 6 = g.1 + 18 by omega, show g.1 + 2 + 1 + 8 = g.1 + 11 by omega]
theorem nsh_F {g : av_H} {q : Nat} (k : Nat) (e : q ≠ g.1) : hF (nsh g) q k = hF g q k := by
  show av_u2 (av_u2 (av_u2 (av_u1 g.2.2.2.2.1 g.1 (fun _ => 0)) g.1 3 0) g.1 4 0) g.1 5 0 q k = _
  rw [av_u2_ne e, av_u2_ne e, av_u2_ne e]
  show av_u1 g.2.2.2.2.1 g.1 (fun _ => 0) q k = _
  rw [show av_u1 g.2.2.2.2.1 g.1 (fun _ => 0) q = g.2.2.2.2.1 q from if_neg e]
theorem nsh_Fo {g : av_H} : hF (nsh g) g.1 3 = 0 ∧ hF (nsh g) g.1 4 = 0 ∧ hF (nsh g) g.1 5 = 0 := by
  refine ⟨?_, ?_, hF_self⟩
  · exact (hF_oth (by decide)).trans ((hF_oth (by decide)).trans hF_self)
  · exact (hF_oth (by decide)).trans hF_self
theorem nsh_G {g : av_H} {q : Nat} (e : q ≠ g.1) : hG (nsh g) q = hG g q := by
  show av_u2 (av_u2 (av_u2 (av_u1 g.2.2.2.2.2.1 g.1 (fun _ => none)) g.1 0 (some (g.1 + 1))) g.1 1 (some (g.1 + 2))) g.1 2 (some (g.1 + 11)) q = _
  rw [av_u2_ne e, av_u2_ne e, av_u2_ne e]
  exact if_neg e
theorem nsh_Go {g : av_H} : hG (nsh g) g.1 0 = some (g.1 + 1) ∧ hG (nsh g) g.1 1 = some (g.1 + 2) ∧ hG (nsh g) g.1 2 = some (g.1 + 11) := by
  refine ⟨?_, ?_, av_u2_self⟩
  · show av_u2 (av_u2 (av_u2 (av_u1 g.2.2.2.2.2.1 g.1 (fun _ => none)) g.1 0 (some (g.1 + 1))) g.1 1 (some (g.1 + 2))) g.1 2 (some (g.1 + 11)) g.1 0 = _
    rw [av_u2_oth (by decide), av_u2_oth (by decide), av_u2_self]
  · show av_u2 (av_u2 (av_u2 (av_u1 g.2.2.2.2.2.1 g.1 (fun _ => none)) g.1 0 (some (g.1 + 1))) g.1 1 (some (g.1 + 2))) g.1 2 (some (g.1 + 11)) g.1 1 = _
    rw [av_u2_oth (by decide), av_u2_self]
theorem nsh_al {g : av_H} : AL g (nsh g) 18 232 := by
  refine ⟨rfl, rfl, fun q hq => ⟨?_, ?_, ?_, nsh_G (by omega), ?_⟩⟩
  · rw [nsh_K, if_neg (by omega), if_neg (by omega), if_neg (by omega), if_neg (by omega), if_neg (by omega), if_neg (by omega)]
  · rw [nsh_A]
    funext j
    rw [if_neg (by omega), if_neg (by omega)]
  · funext k
    exact nsh_F k (by omega)
  · rw [nsh_R, if_neg (by omega), if_neg (by omega), if_neg (by omega)]
theorem nsh_shp {g : av_H} : SHP (nsh g) g.1 := by
  refine ⟨?_, nsh_Go.1, nsh_Go.2.1, nsh_Go.2.2, ?_, ?_, ?_, fun i hi => ⟨?_, ?_⟩, fun i hi => ⟨?_, ?_⟩⟩
  · rw [nsh_K, if_neg (by omega), if_neg (by omega), if_neg (by omega), if_neg (by omega), if_neg (by omega), if_pos rfl]
  · rw [nsh_K, if_neg (by omega), if_neg (by omega), if_neg (by omega), if_neg (by omega), if_pos rfl]
  · rw [nsh_K, if_neg (by omega), if_neg (by omega), if_pos rfl]
  · rw [nsh_K, if_pos rfl]
  · rw [nsh_R, if_neg (by omega), if_pos rfl, if_pos hi, show g.1 + 2 + 1 + i = g.1 + 3 + i by omega]
  · rw [nsh_K, if_neg (by omega), if_neg (by omega), if_neg (by omega), if_pos (by omega)]
  · rw [nsh_R, if_pos rfl, if_pos hi, show g.1 + 11 + 1 + i = g.1 + 12 + i by omega]
  · rw [nsh_K, if_neg (by omega), if_pos (by omega)]
set_option maxRecDepth 100000 in
set_option maxHeartbeats 4000000 in
theorem ct_68 {g : av_H} {Q : Option av_V → av_H → Prop} (hq : Q none (nsh g)) : av_wp none cd_68 0 [some (.inr (.inr (.inl (some g.1))))] [] (av_newO 5 6 g) Q := by
  have k5 : ∀ h : av_H, hK h g.1 = (5, 0) → (hK h g.1).1 = 5 := fun h e => congrArg Prod.fst e
  have k1 : hK (av_newO 5 6 g) g.1 = (5, 0) := if_pos rfl
  refine av_wp_seq 4 (pc' := 7) (lv' := [some (.inr (.inr (.inl (some g.1))))]) (st' := [.inl (16), .inr (.inr (.inl (some g.1)))]) (h' := av_newO 5 6 g) rfl ?_
  refine wq_nr (p' := 10) (k := 30) (m := 16) rfl rfl rfl (fun _ => rfl) (Or.inl rfl) rfl (by omega) ?_
  have k2 : hK (av_newR 30 16 (av_newO 5 6 g)) g.1 = (5, 0) := (if_neg (show ¬ g.1 = g.1 + 1 by omega)).trans k1
  refine wq_pr (p' := 13) rfl rfl (k5 _ k2) rfl ?_
  refine av_wp_seq 3 (pc' := 18) (lv' := [some (.inr (.inr (.inl (some g.1))))]) (st' := [.inl (14), .inl (8), .inr (.inr (.inl (some g.1)))]) (h' := hwG (av_newR 30 16 (av_newO 5 6 g)) g.1 0 (some (g.1 + 1))) rfl ?_
  refine wq_nm (p' := 22) (n := 8) (k := 14) rfl rfl rfl (fun _ => rfl) rfl rfl (by omega) (by omega) ?_
  have k3 : hK (av_newM 8 14 (hwG (av_newR 30 16 (av_newO 5 6 g)) g.1 0 (some (g.1 + 1)))) g.1 = (5, 0) := (if_neg (show ¬ g.1 = g.1 + 1 + 1 by omega)).trans ((if_neg (show ¬ (g.1 + 1 + 1 < g.1 ∧ g.1 < g.1 + 1 + 1 + 1 + 8) by omega)).trans k2)
  refine wq_pr (p' := 25) rfl rfl (k5 _ k3) rfl ?_
  refine av_wp_seq 3 (pc' := 30) (lv' := [some (.inr (.inr (.inl (some g.1))))]) (st' := [.inl (14), .inl (6), .inr (.inr (.inl (some g.1)))]) (h' := hwG (av_newM 8 14 (hwG (av_newR 30 16 (av_newO 5 6 g)) g.1 0 (some (g.1 + 1)))) g.1 1 (some (g.1 + 2))) rfl ?_
  refine wq_nm (p' := 34) (n := 6) (k := 14) rfl rfl rfl (fun _ => rfl) rfl rfl (by omega) (by omega) ?_
  have k4 : hK (av_newM 6 14 (hwG (av_newM 8 14 (hwG (av_newR 30 16 (av_newO 5 6 g)) g.1 0 (some (g.1 + 1)))) g.1 1 (some (g.1 + 2)))) g.1 = (5, 0) := (if_neg (show ¬ g.1 = g.1 + 1 + 1 + 1 + 8 by omega)).trans ((if_neg (show ¬ (g.1 + 1 + 1 + 1 + 8 < g.1 ∧ g.1 < g.1 + 1 + 1 + 1 + 8 + 1 + 6) by omega)).trans k3)
  refine wq_pr (p' := 37) rfl rfl (k5 _ k4) rfl ?_
  refine av_wp_seq 2 (pc' := 39) (lv' := [some (.inr (.inr (.inl (some g.1))))]) (st' := [.inl (0), .inr (.inr (.inl (some g.1)))]) (h' := hwG (av_newM 6 14 (hwG (av_newM 8 14 (hwG (av_newR 30 16 (av_newO 5 6 g)) g.1 0 (some (g.1 + 1)))) g.1 1 (some (g.1 + 2)))) g.1 2 (some (g.1 + 11))) rfl ?_
  refine wq_pi (p' := 42) rfl rfl (k5 _ k4) rfl ?_
  refine av_wp_seq 2 (pc' := 44) (lv' := [some (.inr (.inr (.inl (some g.1))))]) (st' := [.inl (0), .inr (.inr (.inl (some g.1)))]) (h' := hwF (hwG (av_newM 6 14 (hwG (av_newM 8 14 (hwG (av_newR 30 16 (av_newO 5 6 g)) g.1 0 (some (g.1 + 1)))) g.1 1 (some (g.1 + 2)))) g.1 2 (some (g.1 + 11))) g.1 3 (0)) rfl ?_
  refine wq_pi (p' := 47) rfl rfl (k5 _ k4) rfl ?_
  refine av_wp_seq 2 (pc' := 49) (lv' := [some (.inr (.inr (.inl (some g.1))))]) (st' := [.inl (0), .inr (.inr (.inl (some g.1)))]) (h' := hwF (hwF (hwG (av_newM 6 14 (hwG (av_newM 8 14 (hwG (av_newR 30 16 (av_newO 5 6 g)) g.1 0 (some (g.1 + 1)))) g.1 1 (some (g.1 + 2)))) g.1 2 (some (g.1 + 11))) g.1 3 (0)) g.1 4 (0)) rfl ?_
  refine wq_pi (p' := 52) rfl rfl (k5 _ k4) rfl ?_
  exact av_wp_ret (v := none) rfl rfl rfl hq
