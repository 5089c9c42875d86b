/-! ONE STEP: length() and charAt(int) of a literal -/
section AVL
variable {p : Program} {l : Launch} {e : Env} {R : Room} {s : State} {m : MethodId} {args : Array Value} {below : List Frame} {meth : Method} {c : Code} {Q : State → Prop}
variable {a0 : Array Value} {s0 : State} {D : va_G} {TY : Nat → ClassId} {kr ad : Nat → Nat} {sc : av_Sr} {own nL : Nat} {cc : ByteArray} {ini : Bool} {h0 hf h h' : av_H} {pc pc' : Nat} {lv lv' : av_L} {st st' : List av_V}

theorem av_s_len {idx q : Nat}  {r : List av_V} (C : av_Cx p R s m meth c a0 s0 D TY own nL cc ini h0 hf) (hS : av_Str s0 kr ad) (hd : decode cc pc = .ok (.invokevirtual idx, 3)) (hlk : Cond.methodLink (av_cn own) idx sm_y_len ∈ lw_tbl) (hin0 : Cond.instanceMethod sm_y_len ∈ lw_tbl) (hse : Cond.selects "java/lang/String" sm_y_len sm_y_len ∈ lw_tbl) (hco : Cond.code sm_y_len sm_c_len 1 (some .int) ∈ lw_tbl) (hini : Cond.initialized "java/lang/String" ∈ lw_tbl) (hr : (r.map av_cat).sum ≤ 8) (hq : q < 20)  (hfr : 2 ≤ R.frames) (hlo : 60 ≤ R.locals) (hle : h.1 ≤ hf.1 ∧ h.2.1 ≤ hf.2.1) (k : av_W p l e R s m args below meth c Q s0 D TY kr sc nL h0 (pc + 3) lv (.inl ((av_lit q).length : Int) :: r) h) : av_W p l e R s m args below meth c Q s0 D TY kr sc nL h0 pc lv (.inr (.inr (.inr q)) :: r) h := by
  intro H locs ls hR hl hL h1 h2
  have hZ := C.2.2.2.2.2.1.1
  have hW := C.2.2.2.2.1
  have hrm := C.2.2.2.2.2.2.2
  have hrc : ∃ cell : Cell, H[kr q]? = some cell ∧ cell.vm.isStatics = false ∧ s.vm.findClass "java/lang/String" = some cell.cls := by
    obtain ⟨cell, r1, r2, r3, -⟩ := ((hS.1 q hq).1.moved hW.alike).kept (av_old hR)
    exact ⟨cell, r1, r2, r3⟩
  refine av_callN (some (.int (nI (av_lit q).length))) (va_runV (C := "java/lang/String") (As := []) (rest := r.map (av_ev s0.heap.size kr)) (Ts := []) ⟨C.1, C.2.1, C.2.2.1, C.2.2.2.1, fun w hw => by cases hw⟩ (sm_len l hZ hS hq) ⟨av_CB (n := 0) hZ hW rfl rfl (by show _ + 1 ≤ _; simp only [av_rm]; omega) (by show 8 + _ + _ ≤ _; simp only [av_rm]; omega) hco hini hlk (by decide) (by decide +kernel), av_go hZ hW hin0 rfl, av_go hZ hW hse rfl⟩ ⟨av_blind, hrc, fun U hU hWU => ⟨rfl, State.WarmedH.trans hW hWU, fun x hx => by rw [hU]; exact hR.2.1 x hx⟩⟩ rfl rfl hL.1 rfl (lv_room (by rw [av_cats]; exact hr)) hd ⟨by show _ + 0 ≤ _; omega, by show _ + 0 ≤ _; omega⟩) (fun st o t hq => hq) (fun q h => h) ?_
  have kk := k H locs ls hR hl hL h1 h2
  exact kk
theorem av_s_chr {idx q : Nat} {i : Int} {r : List av_V} (C : av_Cx p R s m meth c a0 s0 D TY own nL cc ini h0 hf) (hS : av_Str s0 kr ad) (hd : decode cc pc = .ok (.invokevirtual idx, 3)) (hlk : Cond.methodLink (av_cn own) idx sm_y_chr ∈ lw_tbl) (hin0 : Cond.instanceMethod sm_y_chr ∈ lw_tbl) (hse : Cond.selects "java/lang/String" sm_y_chr sm_y_chr ∈ lw_tbl) (hco : Cond.code sm_y_chr sm_c_chr 2 (some .char) ∈ lw_tbl) (hini : Cond.initialized "java/lang/String" ∈ lw_tbl) (hr : (r.map av_cat).sum ≤ 8) (hq : q < 20) (hi : av_inB i (av_lit q).length = true) (hfr : 4 ≤ R.frames) (hlo : 120 ≤ R.locals) (hle : h.1 ≤ hf.1 ∧ h.2.1 ≤ hf.2.1) (k : av_W p l e R s m args below meth c Q s0 D TY kr sc nL h0 (pc + 3) lv (.inl ((av_lit q).getD (av_w i).toNat 0) :: r) h) : av_W p l e R s m args below meth c Q s0 D TY kr sc nL h0 pc lv (.inl i :: .inr (.inr (.inr q)) :: r) h := by
  intro H locs ls hR hl hL h1 h2
  have hZ := C.2.2.2.2.2.1.1
  have hW := C.2.2.2.2.1
  have hrm := C.2.2.2.2.2.2.2
  have hrc : ∃ cell : Cell, H[kr q]? = some cell ∧ cell.vm.isStatics = false ∧ s.vm.findClass "java/lang/String" = some cell.cls := by
    obtain ⟨cell, r1, r2, r3, -⟩ := ((hS.1 q hq).1.moved hW.alike).kept (av_old hR)
    exact ⟨cell, r1, r2, r3⟩
  have hin : vp_in (Int32.ofInt i) (av_lit q).length := (av_inP hi).1
  refine av_callN (some (.int (Int32.ofInt ((av_lit q).getD (Int32.ofInt i).toNatClampNeg 0)))) (va_runV (C := "java/lang/String") (As := [.int (Int32.ofInt i)]) (rest := r.map (av_ev s0.heap.size kr)) (Ts := []) ⟨C.1, C.2.1, C.2.2.1, C.2.2.2.1, fun w hw => by cases hw⟩ (sm_chr l hZ hS hq hin) ⟨av_CB (n := 1) hZ hW rfl rfl (by show _ + 1 ≤ _; simp only [av_rm]; omega) (by show 8 + _ + _ ≤ _; simp only [av_rm]; omega) hco hini hlk (by decide) (by decide +kernel), av_go hZ hW hin0 rfl, av_go hZ hW hse rfl⟩ ⟨av_blind, hrc, fun U hU hWU => ⟨rfl, State.WarmedH.trans hW hWU, fun x hx => by rw [hU]; exact hR.2.1 x hx⟩⟩ rfl rfl hL.1 rfl (lv_room (by rw [av_cats]; exact hr)) hd ⟨by show _ + 0 ≤ _; omega, by show _ + 0 ≤ _; omega⟩) (fun st o t hq => hq) (fun q h => h) ?_
  have kk := k H locs ls hR hl hL h1 h2
  rw [av_nat]
  exact kk
end AVL
