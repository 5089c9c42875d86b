/-! ONE STEP: loads, lengths, what is made -/
section AVN
variable {p : Program} {l : Launch} {e : Env} {R : Room} {s : State} {m : MethodId} {args : Array Value} {below : List Frame} {meth : Method} {c : Code} {Q : State → Prop}
variable {a0 : Array Value} {s0 : State} {D : va_G} {TY : Nat → ClassId} {kr : Nat → Nat} {sc : av_Sr} {own nL : Nat} {cc : ByteArray} {ini : Bool} {h0 hf h h' : av_H} {pc pc' : Nat} {lv lv' : av_L} {st st' : List av_V}

/-- the script, as the start has it -/
def av_Sc (s0 : State) (kr : Nat → Nat) (sc : av_Sr) : Prop := match sc with
  | none => True
  | some q => va_X (kr 100) q.1 (fun j => Int32.ofInt (q.2 j)) s0 s0.heap ∧ kr 100 < s0.heap.size ∧ q.1 < 2 ^ 31
theorem av_scr {H : Heap} {q : Nat × (Nat → Int)} (C : av_Cx p R s m meth c a0 s0 D TY own nL cc ini h0 hf) (hS : av_Sc s0 kr (some q)) (hR : av_R s0 D TY sc h H) : ∃ scr : Cell, H[kr 100]? = some scr ∧ s.isArrayOf scr .int ∧ scr.vm ≠ .unknown ∧ scr.slots.size = q.1 ∧ ∀ j : Nat, j < q.1 → scr.slots[j]? = some (.int (Int32.ofInt (q.2 j))) := by
  obtain ⟨⟨scr, g1, g2, g3, g4, g5⟩, g6, -⟩ := hS
  exact ⟨scr, by rw [hR.2.1 _ g6]; exact g1, State.isArrayOf_alike C.2.2.2.2.1.alike g2, g3, g4, g5⟩
theorem av_s_iald (C : av_Cx p R s m meth c a0 s0 D TY own nL cc ini h0 hf) (hS : av_Sc s0 kr sc) (hd : decode cc pc = .ok (.iaload, 1)) (hs : av_ald sc [20] pc lv st h = some (pc', lv', st', h')) (k : av_W p l e R s m args below meth c Q s0 D TY kr sc nL h0 pc' lv' st' h') : av_W p l e R s m args below meth c Q s0 D TY kr sc nL h0 pc lv st h := by
  intro H locs ls hR hl hL h1 h2
  unfold av_ald at hs
  split at hs
  · next i o r =>
    split at hs
    · next hc =>
      cases hs
      obtain ⟨hin, hlt⟩ := av_inP hc.2
      have hk : (h.2.2.1 o).1 = 20 := by simpa using hc.1.2
      have hcell := av_arrN hR hc.1.1 hk (by omega) (by omega)
      refine W.iald C.1 C.2.1 hcell ((av_ka C (k := 20) (by decide)).1 _ _) (fun q => by cases q) (by rw [arrV_size]; exact hin) (v := .int (Int32.ofInt (h.2.2.2.1 o (av_w i).toNat))) ?_ rfl rfl hd (k H locs ls hR hl hL h1 h2)
      rw [av_nat, arrV_read _ _ hlt]
    · cases hs
  · next i r =>
    split at hs
    · cases hs
    · next q =>
      split at hs
      · next hc =>
        cases hs
        obtain ⟨hin, hlt⟩ := av_inP hc.2
        obtain ⟨scr, g1, g2, g3, g4, g5⟩ := av_scr C hS hR
        refine W.iald C.1 C.2.1 g1 g2 g3 (by rw [g4]; exact hin) (v := .int (Int32.ofInt (q.2 (av_w i).toNat))) ?_ rfl rfl hd (k H locs ls hR hl hL h1 h2)
        rw [av_nat]
        exact g5 _ hlt
      · cases hs
  · cases hs
theorem av_s_bald (C : av_Cx p R s m meth c a0 s0 D TY own nL cc ini h0 hf) (hd : decode cc pc = .ok (.baload, 1)) (hs : av_ald sc [21, 22] pc lv st h = some (pc', lv', st', h')) (k : av_W p l e R s m args below meth c Q s0 D TY kr sc nL h0 pc' lv' st' h') : av_W p l e R s m args below meth c Q s0 D TY kr sc nL h0 pc lv st h := by
  intro H locs ls hR hl hL h1 h2
  unfold av_ald at hs
  split at hs
  · next i o r =>
    split at hs
    · next hc =>
      cases hs
      obtain ⟨hin, hlt⟩ := av_inP hc.2
      have hk : (h.2.2.1 o).1 = 21 ∨ (h.2.2.1 o).1 = 22 := by simpa using hc.1.2
      rcases hk with hk | hk
      · have hcell := av_arrN hR hc.1.1 hk (by omega) (by omega)
        refine W.bald C.1 C.2.1 hcell ((av_ka C (k := 21) (by decide)).1 _ _) (fun q => by cases q) (by rw [arrV_size]; exact hin) (v := .int (Int32.ofInt (h.2.2.2.1 o (av_w i).toNat))) ?_ rfl rfl hd (k H locs ls hR hl hL h1 h2)
        rw [av_nat, arrV_read _ _ hlt]
      · have hcell := av_arrN hR hc.1.1 hk (by omega) (by omega)
        refine W.zald C.1 C.2.1 hcell ((av_ka C (k := 22) (by decide)).1 _ _) (fun q => by cases q) (by rw [arrV_size]; exact hin) (v := .int (Int32.ofInt (h.2.2.2.1 o (av_w i).toNat))) ?_ rfl rfl hd (k H locs ls hR hl hL h1 h2)
        rw [av_nat, arrV_read _ _ hlt]
    · cases hs
  · next i r =>
    split at hs
    · cases hs
    · split at hs
      · next hc => exact absurd hc.1 (by decide)
      · cases hs
  · cases hs
theorem av_s_aald (C : av_Cx p R s m meth c a0 s0 D TY own nL cc ini h0 hf) (hd : decode cc pc = .ok (.aaload, 1)) (hs : av_aald pc lv st h = some (pc', lv', st', h')) (k : av_W p l e R s m args below meth c Q s0 D TY kr sc nL h0 pc' lv' st' h') : av_W p l e R s m args below meth c Q s0 D TY kr sc nL h0 pc lv st h := by
  intro H locs ls hR hl hL h1 h2
  unfold av_aald at hs
  split at hs
  · next i o r =>
    split at hs
    · next hc =>
      cases hs
      obtain ⟨hin, hlt⟩ := av_inP hc.2
      have hk : (h.2.2.1 o).1 = 30 ∨ (h.2.2.1 o).1 = 31 ∨ (h.2.2.1 o).1 = 32 := by simpa using hc.1.2
      have go : ∀ kk : Nat, (h.2.2.1 o).1 = kk → 30 ≤ kk → kk ∈ [20, 21, 22, 30, 31, 32] → (av_ft kk).isReference = true → W p l e R s m args below meth c H locs (h.1 - h0.1) (h.2.1 - h0.2.1) Q (F0 m pc ls ((.inl i :: .inr (.inr (.inl (some o))) :: r).map (av_ev s0.heap.size kr))) := by
        intro kk hk h30 hm hr
        have hcell := av_arrR hR hc.1.1 hk h30
        refine W.aald C.1 C.2.1 hcell ((av_ka C hm).1 _ _) hr (fun q => by cases q) (by rw [arrV_size]; exact hin) (v := va_rf ((h.2.2.2.2.2.2.1 o (av_w i).toNat).map (fun q => s0.heap.size + q))) ?_ rfl rfl hd (k H locs ls hR hl hL h1 h2)
        rw [av_nat, arrV_read _ _ hlt]
      rcases hk with hk | hk | hk
      · exact go 30 hk (by omega) (by decide) rfl
      · exact go 31 hk (by omega) (by decide) rfl
      · exact go 32 hk (by omega) (by decide) rfl
    · cases hs
  · cases hs
theorem av_s_alen (C : av_Cx p R s m meth c a0 s0 D TY own nL cc ini h0 hf) (hS : av_Sc s0 kr sc) (hd : decode cc pc = .ok (.arraylength, 1)) (hs : av_alen sc pc lv st h = some (pc', lv', st', h')) (k : av_W p l e R s m args below meth c Q s0 D TY kr sc nL h0 pc' lv' st' h') : av_W p l e R s m args below meth c Q s0 D TY kr sc nL h0 pc lv st h := by
  intro H locs ls hR hl hL h1 h2
  unfold av_alen at hs
  split at hs
  · next o r =>
    split at hs
    · next hc =>
      cases hs
      have kk := k H locs ls hR hl hL h1 h2
      have hm := hc.2
      have hcell : ∃ f, H[s0.heap.size + o]? = some (arrV (TY (h.2.2.1 o).1) (h.2.2.1 o).2 f) := by
        by_cases q : (h.2.2.1 o).1 < 30
        · have q9 : 9 ≤ (h.2.2.1 o).1 := by
            simp only [List.mem_cons, List.not_mem_nil, or_false] at hm
            omega
          exact ⟨_, av_arrN hR hc.1 rfl q9 q⟩
        · exact ⟨_, av_arrR hR hc.1 rfl (by omega)⟩
      obtain ⟨f, hcell⟩ := hcell
      refine W.alen C.1 C.2.1 hcell ((av_ka C hm).1 _ _) (n := Int32.ofInt ((h.2.2.1 o).2 : Int)) ?_ rfl rfl hd kk
      rw [arrV_size]
      exact (Int32.ofInt_eq_ofNat (n := (h.2.2.1 o).2)).symm
    · cases hs
  · next r =>
    split at hs
    · cases hs
    · next q =>
      cases hs
      have kk := k H locs ls hR hl hL h1 h2
      obtain ⟨scr, g1, g2, g3, g4, g5⟩ := av_scr C hS hR
      refine W.alen C.1 C.2.1 g1 g2 (n := Int32.ofInt ((q.1 : Nat) : Int)) ?_ rfl rfl hd kk
      rw [g4]
      exact (Int32.ofInt_eq_ofNat (n := q.1)).symm
  · cases hs
theorem av_s_newa {t : ArrayType} (C : av_Cx p R s m meth c a0 s0 D TY own nL cc ini h0 hf) (hd : decode cc pc = .ok (.newarray t, 2)) (hac : Cond.arrayClass (newarray.typeOf t) ∈ lw_tbl) (hs : av_newa t pc lv st h = some (pc', lv', st', h')) (hle : h'.1 ≤ hf.1 ∧ h'.2.1 ≤ hf.2.1) (k : av_W p l e R s m args below meth c Q s0 D TY kr sc nL h0 pc' lv' st' h') : av_W p l e R s m args below meth c Q s0 D TY kr sc nL h0 pc lv st h := by
  intro H locs ls hR hl hL h1 h2
  unfold av_newa at hs
  split at hs
  · next n r =>
    split at hs
    · next hc =>
      cases hs
      obtain ⟨c1, c2, c3⟩ := hc
      simp only [av_newN] at hle
      have hroom : h.1 - h0.1 + 1 ≤ R.cells ∧ h.2.1 - h0.2.1 + (av_w n).toNat ≤ R.slots := by
        have := C.2.2.2.2.2.2.2
        omega
      have hty : ∃ kk : Nat, av_atk t = kk ∧ kk ∈ [20, 21, 22, 30, 31, 32] ∧ 9 ≤ kk ∧ kk < 30 ∧ newarray.typeOf t = av_ft kk ∧ componentBytes (newarray.typeOf t) ≤ 4 ∧ defaultValue (newarray.typeOf t) = .int 0 ∧ ("[" ++ (newarray.typeOf t).toString) = ("[" ++ (av_ft kk).toString) := by
        cases t <;> first | exact absurd rfl c1 | exact ⟨_, rfl, by decide, by decide, by decide, rfl, by decide, rfl, rfl⟩
      obtain ⟨kk, e1, e2, e3, e4, e5, e6, e7, e8⟩ := hty
      have hka := av_ka C e2
      refine va_newaK C.1 C.2.1 (av_wdA C hac) rfl hd (n := Int32.ofInt n) rfl (by rw [av_lt0]; omega) (av_nat n) (by
        have : (av_w n).toNat ≤ 100000 := by omega
        calc (av_w n).toNat * componentBytes (newarray.typeOf t) ≤ 100000 * 4 := Nat.mul_le_mul this e6
          _ ≤ 536870912 := by decide) hroom.1 hroom.2 rfl (fun H' cA f1 f2 f3 f4 f5 => ?_)
      have hcA : cA = TY kk := by
        have hra := hka.2
        rw [e8] at f5
        have hn : s.vm.findClass ("[" ++ (av_ft kk).toString) = some (TY kk) := by
          simp only [List.mem_cons, List.not_mem_nil, or_false] at e2
          rcases e2 with rfl | rfl | rfl | rfl | rfl | rfl <;> first | exact hra | omega
        exact Option.some.inj (f5.symm.trans hn)
      subst hcA
      rw [e7] at f1
      have hsz := hR.1
      have hR' : av_R s0 D TY sc (av_newN kk (av_w n).toNat (fun _ => 0) h) H' := by
        refine av_R_new hR f2 f3 rfl rfl (fun q hq => ⟨av_u1_ne hq, av_u1_ne hq, rfl, rfl, rfl⟩) ?_
        unfold av_at
        simp only [av_newN, av_u1_self]
        rw [if_neg (by omega), if_pos e4, ← hsz]
        exact f1
      rw [e1] at k
      have kk9 := k H' locs ls hR' hl hL (by simp only [av_newN]; omega) (by simp only [av_newN]; omega)
      have g1 : (av_newN kk (av_w n).toNat (fun _ => 0) h).1 - h0.1 = h.1 - h0.1 + 1 := by simp only [av_newN]; omega
      have g2 : (av_newN kk (av_w n).toNat (fun _ => 0) h).2.1 - h0.2.1 = h.2.1 - h0.2.1 + (av_w n).toNat := by simp only [av_newN]; omega
      rw [g1, g2] at kk9
      rw [hsz]
      exact kk9
    · cases hs
  · cases hs
end AVN
