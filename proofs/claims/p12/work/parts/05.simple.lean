/-! ONE STEP OF THE SMALL MACHINE, A ROW OF THE KIT: what changes no cell -/
section AVS
variable {p : Program} {l : Launch} {e : Env} {R : Room} {s : State} {m : MethodId} {args : Array Value} {below : List Frame} {meth : Method} {c : Code} {Q : State → Prop}
variable {a0 : Array Value} {s0 : State} {D : va_G} {TY : Nat → ClassId} {kr : Nat → Nat} {sc : av_Sr} {own nL : Nat} {cc : ByteArray} {ini : Bool} {h0 hf h h' : av_H} {pc pc' : Nat} {lv lv' : av_L} {st st' : List av_V}
/-- from every state of the machine that stands so to this state of the small one, Q is reached -/
def av_W (p : Program) (l : Launch) (e : Env) (R : Room) (s : State) (m : MethodId) (args : Array Value) (below : List Frame) (meth : Method) (c : Code) (Q : State → Prop) (s0 : State) (D : va_G) (TY : Nat → ClassId) (kr : Nat → Nat) (sc : av_Sr) (nL : Nat) (h0 : av_H) (pc : Nat) (lv : av_L) (st : List av_V) (h : av_H) : Prop :=
  ∀ (H : Heap) (locs : List Loc) (ls : Array Slot), av_R s0 D TY sc h H → (∀ q ∈ locs, s0.heap.size ≤ q.base) → av_Lr s0.heap.size kr ls nL lv → h0.1 ≤ h.1 → h0.2.1 ≤ h.2.1 →
    W p l e R s m args below meth c H locs (h.1 - h0.1) (h.2.1 - h0.2.1) Q (F0 m pc ls (st.map (av_ev s0.heap.size kr)))
/-- what a method's body knows -/
def av_Cx (p : Program) (R : Room) (s : State) (m : MethodId) (meth : Method) (c : Code) (a0 : Array Value) (s0 : State) (D : va_G) (TY : Nat → ClassId) (own nL : Nat) (cc : ByteArray) (ini : Bool) (h0 hf : av_H) : Prop :=
  p.tables.exec = Jvm.exec ∧ c.code = cc ∧ c.maxLocals = nL ∧ s.vm.findClass (av_cn own) = some m.cls ∧ s0.WarmedH s.vm ∧ av_Z a0 s0 D TY ∧ (ini = true → meth.name = "<init>") ∧ hf.1 - h0.1 ≤ R.cells ∧ hf.2.1 - h0.2.1 ≤ R.slots
theorem av_s_iconst {n : Int} (C : av_Cx p R s m meth c a0 s0 D TY own nL cc ini h0 hf) (hd : decode cc pc = .ok (.iconst n, 1)) (k : av_W p l e R s m args below meth c Q s0 D TY kr sc nL h0 (pc + 1) lv (.inl n :: st) h) : av_W p l e R s m args below meth c Q s0 D TY kr sc nL h0 pc lv st h :=
  fun H locs ls hR hl hL h1 h2 => lv_iconst C.1 C.2.1 hd rfl (k H locs ls hR hl hL h1 h2)
theorem av_s_bipush {n : Int} (C : av_Cx p R s m meth c a0 s0 D TY own nL cc ini h0 hf) (hd : decode cc pc = .ok (.bipush n, 2)) (hn : (Int8.ofInt n).toInt32 = Int32.ofInt n) (k : av_W p l e R s m args below meth c Q s0 D TY kr sc nL h0 (pc + 2) lv (.inl n :: st) h) : av_W p l e R s m args below meth c Q s0 D TY kr sc nL h0 pc lv st h :=
  fun H locs ls hR hl hL h1 h2 => lv_bipush C.1 C.2.1 hd hn (k H locs ls hR hl hL h1 h2)
theorem av_s_sipush {n : Int} (C : av_Cx p R s m meth c a0 s0 D TY own nL cc ini h0 hf) (hd : decode cc pc = .ok (.sipush n, 3)) (hn : (Int16.ofInt n).toInt32 = Int32.ofInt n) (k : av_W p l e R s m args below meth c Q s0 D TY kr sc nL h0 (pc + 3) lv (.inl n :: st) h) : av_W p l e R s m args below meth c Q s0 D TY kr sc nL h0 pc lv st h :=
  fun H locs ls hR hl hL h1 h2 => lv_sipush C.1 C.2.1 hd hn (k H locs ls hR hl hL h1 h2)
theorem av_s_lconst {n : Fin 2} (C : av_Cx p R s m meth c a0 s0 D TY own nL cc ini h0 hf) (hd : decode cc pc = .ok (.lconst n, 1)) (k : av_W p l e R s m args below meth c Q s0 D TY kr sc nL h0 (pc + 1) lv (.inr (.inl (n.val : Int)) :: st) h) : av_W p l e R s m args below meth c Q s0 D TY kr sc nL h0 pc lv st h :=
  fun H locs ls hR hl hL h1 h2 => lv_lconst C.1 C.2.1 hd (by rcases n with ⟨_ | _ | n, hn⟩ <;> first | rfl | omega) (k H locs ls hR hl hL h1 h2)
theorem av_s_null (C : av_Cx p R s m meth c a0 s0 D TY own nL cc ini h0 hf) (hd : decode cc pc = .ok (.aconst_null, 1)) (k : av_W p l e R s m args below meth c Q s0 D TY kr sc nL h0 (pc + 1) lv (.inr (.inr (.inl none)) :: st) h) : av_W p l e R s m args below meth c Q s0 D TY kr sc nL h0 pc lv st h :=
  fun H locs ls hR hl hL h1 h2 => lv_null C.1 C.2.1 hd (k H locs ls hR hl hL h1 h2)
theorem av_join {lv : av_L} {i : Nat} {v : av_V} (h : (lv[i]?).join = some v) : lv[i]? = some (some v) := by
  rw [Option.join_eq_some_iff] at h
  exact h
theorem av_s_iload_n {i : Fin 4} (C : av_Cx p R s m meth c a0 s0 D TY own nL cc ini h0 hf) (hd : decode cc pc = .ok (.iload_n i, 1)) (hs : av_ldi i.val 1 pc lv st h = some (pc', lv', st', h')) (k : av_W p l e R s m args below meth c Q s0 D TY kr sc nL h0 pc' lv' st' h') : av_W p l e R s m args below meth c Q s0 D TY kr sc nL h0 pc lv st h := by
  intro H locs ls hR hl hL h1 h2
  unfold av_ldi at hs
  split at hs
  · next x hx =>
    cases hs
    exact lv_iload_n C.1 C.2.1 hd rfl (hL.2.2.2 _ _ (av_join hx)) (k H locs ls hR hl hL h1 h2)
  · cases hs
theorem av_s_iload {i : Nat} (C : av_Cx p R s m meth c a0 s0 D TY own nL cc ini h0 hf) (hd : decode cc pc = .ok (.iload i, 2)) (hs : av_ldi i 2 pc lv st h = some (pc', lv', st', h')) (k : av_W p l e R s m args below meth c Q s0 D TY kr sc nL h0 pc' lv' st' h') : av_W p l e R s m args below meth c Q s0 D TY kr sc nL h0 pc lv st h := by
  intro H locs ls hR hl hL h1 h2
  unfold av_ldi at hs
  split at hs
  · next x hx =>
    cases hs
    exact lv_iload C.1 C.2.1 hd (hL.2.2.2 _ _ (av_join hx)) (k H locs ls hR hl hL h1 h2)
  · cases hs
theorem av_s_lload_n {i : Fin 4} (C : av_Cx p R s m meth c a0 s0 D TY own nL cc ini h0 hf) (hd : decode cc pc = .ok (.lload_n i, 1)) (hs : av_ldl i.val 1 pc lv st h = some (pc', lv', st', h')) (k : av_W p l e R s m args below meth c Q s0 D TY kr sc nL h0 pc' lv' st' h') : av_W p l e R s m args below meth c Q s0 D TY kr sc nL h0 pc lv st h := by
  intro H locs ls hR hl hL h1 h2
  unfold av_ldl at hs
  split at hs
  · next x hx =>
    cases hs
    exact lv_lload_n C.1 C.2.1 hd rfl (hL.2.2.2 _ _ (av_join hx)) (k H locs ls hR hl hL h1 h2)
  · cases hs
theorem av_s_lload {i : Nat} (C : av_Cx p R s m meth c a0 s0 D TY own nL cc ini h0 hf) (hd : decode cc pc = .ok (.lload i, 2)) (hs : av_ldl i 2 pc lv st h = some (pc', lv', st', h')) (k : av_W p l e R s m args below meth c Q s0 D TY kr sc nL h0 pc' lv' st' h') : av_W p l e R s m args below meth c Q s0 D TY kr sc nL h0 pc lv st h := by
  intro H locs ls hR hl hL h1 h2
  unfold av_ldl at hs
  split at hs
  · next x hx =>
    cases hs
    exact lv_lload C.1 C.2.1 hd (hL.2.2.2 _ _ (av_join hx)) (k H locs ls hR hl hL h1 h2)
  · cases hs
theorem av_s_aload_n {i : Fin 4} (C : av_Cx p R s m meth c a0 s0 D TY own nL cc ini h0 hf) (hd : decode cc pc = .ok (.aload_n i, 1)) (hs : av_lda i.val 1 pc lv st h = some (pc', lv', st', h')) (k : av_W p l e R s m args below meth c Q s0 D TY kr sc nL h0 pc' lv' st' h') : av_W p l e R s m args below meth c Q s0 D TY kr sc nL h0 pc lv st h := by
  intro H locs ls hR hl hL h1 h2
  unfold av_lda at hs
  split at hs
  · next v hx =>
    cases hs
    have hv := hL.2.2.2 _ _ (av_join hx)
    have kk := k H locs ls hR hl hL h1 h2
    rcases v with (_ | o) | q
    · exact lv_aload_nN C.1 C.2.1 hd rfl hv kk
    · exact lv_aload_n C.1 C.2.1 hd rfl hv kk
    · exact lv_aload_n C.1 C.2.1 hd rfl hv kk
  · cases hs
theorem av_s_aload {i : Nat} (C : av_Cx p R s m meth c a0 s0 D TY own nL cc ini h0 hf) (hd : decode cc pc = .ok (.aload i, 2)) (hs : av_lda i 2 pc lv st h = some (pc', lv', st', h')) (k : av_W p l e R s m args below meth c Q s0 D TY kr sc nL h0 pc' lv' st' h') : av_W p l e R s m args below meth c Q s0 D TY kr sc nL h0 pc lv st h := by
  intro H locs ls hR hl hL h1 h2
  unfold av_lda at hs
  split at hs
  · next v hx =>
    cases hs
    have hv := hL.2.2.2 _ _ (av_join hx)
    have kk := k H locs ls hR hl hL h1 h2
    rcases v with (_ | o) | q
    · exact lv_aloadN C.1 C.2.1 hd hv kk
    · exact lv_aload C.1 C.2.1 hd hv kk
    · exact lv_aload C.1 C.2.1 hd hv kk
  · cases hs
theorem av_s_istore_n {i : Fin 4} (C : av_Cx p R s m meth c a0 s0 D TY own nL cc ini h0 hf) (hd : decode cc pc = .ok (.istore_n i, 1)) (hs : av_sti i.val 1 pc lv st h = some (pc', lv', st', h')) (k : av_W p l e R s m args below meth c Q s0 D TY kr sc nL h0 pc' lv' st' h') : av_W p l e R s m args below meth c Q s0 D TY kr sc nL h0 pc lv st h := by
  intro H locs ls hR hl hL h1 h2
  unfold av_sti at hs
  split at hs
  · next x r =>
    rw [Option.map_eq_some_iff] at hs
    obtain ⟨lv1, hst, he⟩ := hs
    cases he
    exact lv_istore_n C.1 C.2.1 hd rfl (av_toHas hL) (by rw [← hL.2.1]; exact (av_sto_eq hst).1) rfl (fun ls' hh => k H locs ls' hR hl (av_ofHas hL.2.1 hst hh) h1 h2)
  · cases hs
theorem av_s_istore {i : Nat} (C : av_Cx p R s m meth c a0 s0 D TY own nL cc ini h0 hf) (hd : decode cc pc = .ok (.istore i, 2)) (hs : av_sti i 2 pc lv st h = some (pc', lv', st', h')) (k : av_W p l e R s m args below meth c Q s0 D TY kr sc nL h0 pc' lv' st' h') : av_W p l e R s m args below meth c Q s0 D TY kr sc nL h0 pc lv st h := by
  intro H locs ls hR hl hL h1 h2
  unfold av_sti at hs
  split at hs
  · next x r =>
    rw [Option.map_eq_some_iff] at hs
    obtain ⟨lv1, hst, he⟩ := hs
    cases he
    exact lv_istore C.1 C.2.1 hd (av_toHas hL) (by rw [← hL.2.1]; exact (av_sto_eq hst).1) rfl (fun ls' hh => k H locs ls' hR hl (av_ofHas hL.2.1 hst hh) h1 h2)
  · cases hs
theorem av_s_astore_n {i : Fin 4} (C : av_Cx p R s m meth c a0 s0 D TY own nL cc ini h0 hf) (hd : decode cc pc = .ok (.astore_n i, 1)) (hs : av_sta i.val 1 pc lv st h = some (pc', lv', st', h')) (k : av_W p l e R s m args below meth c Q s0 D TY kr sc nL h0 pc' lv' st' h') : av_W p l e R s m args below meth c Q s0 D TY kr sc nL h0 pc lv st h := by
  intro H locs ls hR hl hL h1 h2
  unfold av_sta at hs
  split at hs
  · next v r =>
    rw [Option.map_eq_some_iff] at hs
    obtain ⟨lv1, hst, he⟩ := hs
    cases he
    have hi : i.val < nL := by rw [← hL.2.1]; exact (av_sto_eq hst).1
    rcases v with (_ | o) | q
    · exact lv_astore_nN C.1 C.2.1 hd rfl (av_toHas hL) hi rfl (fun ls' hh => k H locs ls' hR hl (av_ofHas hL.2.1 hst hh) h1 h2)
    · exact lv_astore_n C.1 C.2.1 hd rfl (av_toHas hL) hi rfl (fun ls' hh => k H locs ls' hR hl (av_ofHas hL.2.1 hst hh) h1 h2)
    · exact lv_astore_n C.1 C.2.1 hd rfl (av_toHas hL) hi rfl (fun ls' hh => k H locs ls' hR hl (av_ofHas hL.2.1 hst hh) h1 h2)
  · cases hs
theorem av_s_astore {i : Nat} (C : av_Cx p R s m meth c a0 s0 D TY own nL cc ini h0 hf) (hd : decode cc pc = .ok (.astore i, 2)) (hs : av_sta i 2 pc lv st h = some (pc', lv', st', h')) (k : av_W p l e R s m args below meth c Q s0 D TY kr sc nL h0 pc' lv' st' h') : av_W p l e R s m args below meth c Q s0 D TY kr sc nL h0 pc lv st h := by
  intro H locs ls hR hl hL h1 h2
  unfold av_sta at hs
  split at hs
  · next v r =>
    rw [Option.map_eq_some_iff] at hs
    obtain ⟨lv1, hst, he⟩ := hs
    cases he
    have hi : i < nL := by rw [← hL.2.1]; exact (av_sto_eq hst).1
    rcases v with (_ | o) | q
    · exact lv_astoreN C.1 C.2.1 hd (av_toHas hL) hi rfl (fun ls' hh => k H locs ls' hR hl (av_ofHas hL.2.1 hst hh) h1 h2)
    · exact lv_astore C.1 C.2.1 hd (av_toHas hL) hi rfl (fun ls' hh => k H locs ls' hR hl (av_ofHas hL.2.1 hst hh) h1 h2)
    · exact lv_astore C.1 C.2.1 hd (av_toHas hL) hi rfl (fun ls' hh => k H locs ls' hR hl (av_ofHas hL.2.1 hst hh) h1 h2)
  · cases hs
theorem av_s_iinc {i : Nat} {n : Int} (C : av_Cx p R s m meth c a0 s0 D TY own nL cc ini h0 hf) (hd : decode cc pc = .ok (.iinc i n, 3)) (hs : av_iinc i n pc lv st h = some (pc', lv', st', h')) (k : av_W p l e R s m args below meth c Q s0 D TY kr sc nL h0 pc' lv' st' h') : av_W p l e R s m args below meth c Q s0 D TY kr sc nL h0 pc lv st h := by
  intro H locs ls hR hl hL h1 h2
  unfold av_iinc at hs
  split at hs
  · next x hx =>
    rw [Option.map_eq_some_iff] at hs
    obtain ⟨lv1, hst, he⟩ := hs
    cases he
    have hi : i < nL := by rw [← hL.2.1]; exact (av_sto_eq hst).1
    obtain ⟨k0, hk0⟩ := List.getElem?_of_mem (av_lst_mem (z := s0.heap.size) (kr := kr) (q := (i, Value.int (Int32.ofInt x))) |>.mpr ⟨.inl x, av_join hx, rfl⟩)
    exact lv_iinc C.1 C.2.1 hd (av_toHas hL) hk0 (v := Int32.ofInt (x + n)) (Int32.ofInt_add x n).symm hi rfl (fun ls' hh => k H locs ls' hR hl (av_ofHas hL.2.1 hst hh) h1 h2)
  · cases hs
end AVS
