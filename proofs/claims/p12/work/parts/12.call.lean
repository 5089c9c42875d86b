/-! CALLS: what a call needs of the tables, out of the start's words; the literals' members -/
section AVC
variable {p : Program} {l : Launch} {e : Env} {R : Room} {s : State} {m : MethodId} {args : Array Value} {below : List Frame} {meth : Method} {c : Code} {Q : State → Prop}
variable {a0 : Array Value} {s0 : State} {H : Heap} {locs : List Loc} {cells slots : Nat}
theorem av_go {w : Cond} (hZ : ∀ w ∈ lw_tbl, w.before a0 s0 = true) (hW : s0.WarmedH s.vm) (hw : w ∈ lw_tbl) (hg : (w.onTables && w.keeps) = true) : w.before args s = true := word_at hW (Or.inl hg) (hZ w hw)
theorem av_CB {own : String} {idx maxL n mc ms : Nat} {y : MethodName} {bytes : ByteArray} {ret : Option FieldType} {rm : Room} (hZ : ∀ w ∈ lw_tbl, w.before a0 s0 = true) (hW : s0.WarmedH s.vm) (hrc : rm.cells = mc) (hrs : rm.slots = ms) (hfr : rm.frames + 1 ≤ R.frames) (hlo : 8 + (maxL + 11) + rm.locals ≤ R.locals)
    (hco : Cond.code y bytes maxL ret ∈ lw_tbl) (hini : Cond.initialized y.cls ∈ lw_tbl) (hlk : Cond.methodLink own idx y ∈ lw_tbl) (hy : y.cls ≠ "java/lang/invoke/MethodHandle" ∧ y.cls ≠ "java/lang/invoke/VarHandle") (hn : (parseMethodDescriptor y.desc).map (fun d => d.parameters.length) = some n) :
    CallB R s args own idx y bytes maxL ret [Cond.code y bytes maxL ret] rm mc ms n := by
  refine ⟨hrc, hrs, hfr, hlo, fun w hw a' U hU => ?_, List.mem_cons_self, av_go hZ hW hco rfl, av_go hZ hW hini rfl, hy, fun sig h => ?_, av_go hZ hW hlk rfl⟩
  · rw [List.mem_singleton.mp hw]
    exact av_go hZ (State.WarmedH.trans hW hU) hco rfl
  · rw [h] at hn
    exact (Option.some.inj hn).symm
theorem av_CN {own host : String} {idx maxL n mc ms : Nat} {y : MethodName} {bytes : ByteArray} {ret : Option FieldType} {rm : Room} (hZ : ∀ w ∈ lw_tbl, w.before a0 s0 = true) (hW : s0.WarmedH s.vm) (hrc : rm.cells = mc) (hrs : rm.slots = ms) (hfr : rm.frames + 1 ≤ R.frames) (hlo : 8 + (maxL + 11) + rm.locals ≤ R.locals)
    (hco : Cond.code y bytes maxL ret ∈ lw_tbl) (hini : Cond.initialized y.cls ∈ lw_tbl) (hlk : Cond.methodLinkNest own idx y host ∈ lw_tbl) (hy : y.cls ≠ "java/lang/invoke/MethodHandle" ∧ y.cls ≠ "java/lang/invoke/VarHandle") (hn : (parseMethodDescriptor y.desc).map (fun d => d.parameters.length) = some n) :
    va_CN R s args own idx y host bytes maxL ret [Cond.code y bytes maxL ret] rm mc ms n := by
  refine ⟨⟨hrc, hrs, hfr, hlo, fun w hw a' U hU => ?_, List.mem_cons_self⟩, av_go hZ hW hco rfl, av_go hZ hW hini rfl, hy, fun sig h => ?_, va_Nw.use rfl (va_Nw.warmM hW (va_Nw.of rfl (hZ _ hlk)))⟩
  · rw [List.mem_singleton.mp hw]
    exact av_go hZ (State.WarmedH.trans hW hU) hco rfl
  · rw [h] at hn
    exact (Option.some.inj hn).symm
/-- a call that changes no cell -/
theorem av_callN {g : JFrame} {rest : List Value} {Qa : State → Outcome → State → Prop} {free : Addr → Prop} (v : Option Value) (hr : va_Run p l e R s m args below meth c H locs cells slots 0 0 g rest Qa free) (hq : ∀ (st : State) (o : Outcome) (t : State), Qa st o t → o = .returned v ∧ t.heap = st.heap) (hf : ∀ q, ¬ free q)
    (kk : W p l e R s m args below meth c H locs cells slots Q { g with pc := g.pc + 3, stack := v.toList ++ rest }) : W p l e R s m args below meth c H locs cells slots Q g := by
  intro T hT X
  obtain ⟨v', st₀, t, T', L, e0, X', hL, e1, e2, hqa, st⟩ := hr T hT X
  obtain ⟨hv, hh⟩ := hq _ _ _ hqa
  cases hv
  have hLn : L = [] := by
    cases L with
    | nil => rfl
    | cons x xs => exact absurd (hL x List.mem_cons_self) (hf _)
  subst hLn
  rw [List.append_nil] at X'
  obtain ⟨t2, a1, b1⟩ := kk T' (by rw [e1, hh, e0]) X'
  exact ⟨t2, st t2 a1, b1⟩
/-- nothing of the start's own cells has changed -/
def av_O (s0 U : State) : Prop := s0.WarmedH U.vm ∧ ∀ q : Nat, q < s0.heap.size → U.heap[q]? = s0.heap[q]?
def av_rm (f n : Nat) : Room := { frames := f, cells := 0, slots := 0, locals := n }
theorem av_blind {P : Array Value → Prop} : FrameBlind (fun a U => P a ∧ av_O s0 U) := fun _ _ _ _ h => h
end AVC
