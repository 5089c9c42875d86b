/-! THE RUN: by the fuel -/
def av_Qm (s0 : State) (D : va_G) (TY : Nat → ClassId) (kr : Nat → Nat) (sc : av_Sr) (v : Option av_V) (h' : av_H) : Array Value → State → Outcome → State → Prop := fun _ _ o t => o = .returned (v.map (av_ev s0.heap.size kr)) ∧ av_R s0 D TY sc h' t.heap
def av_Pm (s0 : State) (D : va_G) (TY : Nat → ClassId) (kr : Nat → Nat) (sc : av_Sr) (vs : List av_V) (h : av_H) : Array Value → State → Prop := fun a U => a = (vs.map (av_ev s0.heap.size kr)).toArray ∧ s0.WarmedH U.vm ∧ av_R s0 D TY sc h U.heap
def av_Rm (r : av_Mr) (h h' : av_H) : Room := { frames := r.2.2.2.2.2.2.2.1, cells := h'.1 - h.1, slots := h'.2.1 - h.2.1, locals := r.2.2.2.2.2.2.2.2.1 }
/-- a method's contract, at these values and this heap -/
def av_Mt (l : Launch) (s0 : State) (D : va_G) (TY : Nat → ClassId) (kr : Nat → Nat) (sc : av_Sr) (r : av_Mr) (vs : List av_V) (h : av_H) (v : Option av_V) (h' : av_H) : Prop :=
  Met l r.2.1 [Cond.code r.2.1 r.2.2.1 r.2.2.2.1 r.2.2.2.2.1] (av_Rm r h h') (av_Pm s0 D TY kr sc vs h) (av_Qm s0 D TY kr sc v h') (h'.1 - h.1) (h'.2.1 - h.2.1) (fun q => s0.heap.size ≤ q)
theorem av_lookup {cd : List (Nat × av_E)} {pc : Nat} {x : av_E} (h : cd.lookup pc = some x) : (pc, x) ∈ cd := by
  induction cd with
  | nil => cases h
  | cons q t ih =>
    obtain ⟨k, y⟩ := q
    simp only [List.lookup] at h
    split at h
    · next e =>
      cases h
      have e1 : pc = k := by simpa using e
      rw [e1]
      exact List.mem_cons_self
    · exact List.mem_cons_of_mem _ (ih h)
theorem av_ents {z : Nat} {kr : Nat → Nat} : ∀ (vs : List av_V), (lg_sl (vs.map (av_ev z kr))).length = (av_args vs).length ∧ ∀ (i : Nat) (v : av_V), (av_args vs)[i]? = some (some v) → ∀ n : Nat, (n + i, av_ev z kr v) ∈ lv_args n (vs.map (av_ev z kr)) := by
  intro vs
  induction vs with
  | nil => exact ⟨rfl, fun i v h => by simp [av_args] at h⟩
  | cons u us ih =>
    by_cases hc : av_cat u = 2
    · have hc' : (av_ev z kr u).category = 2 := by rw [av_ev_cat]; exact hc
      refine ⟨by simp only [List.map_cons, lg_sl, List.flatMap_cons, hc', if_true, av_args, hc] at *; simp [ih.1], fun i v h n => ?_⟩
      simp only [av_args, hc, if_true] at h
      simp only [List.map_cons, lv_args, hc', if_true]
      rcases i with _ | _ | i
      · cases h
        exact List.mem_cons_self
      · cases h
      · have := ih.2 i v (by simpa using h) (n + 2)
        rw [show n + 2 + i = n + (i + 1 + 1) by omega] at this
        exact List.mem_cons_of_mem _ this
    · have hc' : ¬ (av_ev z kr u).category = 2 := by rw [av_ev_cat]; exact hc
      refine ⟨by simp only [List.map_cons, lg_sl, List.flatMap_cons, hc', if_false, av_args, hc] at *; simp [ih.1], fun i v h n => ?_⟩
      simp only [av_args, hc, if_false] at h
      simp only [List.map_cons, lv_args, hc', if_false]
      rcases i with _ | i
      · cases h
        exact List.mem_cons_self
      · have := ih.2 i v (by simpa using h) (n + 1)
        rw [show n + 1 + i = n + (i + 1) by omega] at this
        exact List.mem_cons_of_mem _ this
theorem av_entry {z : Nat} {kr : Nat → Nat} {n : Nat} {vs : List av_V} (h : (av_args vs).length ≤ n) : av_Lr z kr ((lg_sl (vs.map (av_ev z kr)) ++ List.replicate (n - (lg_sl (vs.map (av_ev z kr))).length) Slot.unset).toArray) n (av_ent n vs) := by
  obtain ⟨e1, e2⟩ := av_ents (z := z) (kr := kr) vs
  have hh := lv_entry (vs.map (av_ev z kr)) (n := n) (by rw [e1]; exact h)
  refine ⟨hh.1, by simp [av_ent]; omega, hh.2.1, fun i v hv => ?_⟩
  unfold av_ent at hv
  have hi : i < (av_args vs).length := by
    by_cases q : i < (av_args vs).length
    · exact q
    · rw [List.getElem?_append_right (by omega)] at hv
      have := List.eq_of_mem_replicate (List.mem_of_getElem? hv)
      cases this
  rw [List.getElem?_append_left hi] at hv
  have := e2 i v hv 0
  rw [Nat.zero_add] at this
  exact hh.2.2 _ this
section AVR
variable {l : Launch} {a0 : Array Value} {s0 : State} {D : va_G} {TY : Nat → ClassId} {kr ad : Nat → Nat} {sc : av_Sr} {T : Nat → Option av_Mr}
/-- what a body gives, with this fuel -/
def av_Bd (l : Launch) (a0 : Array Value) (s0 : State) (D : va_G) (TY : Nat → ClassId) (kr : Nat → Nat) (sc : av_Sr) (T : Nat → Option av_Mr) (n : Nat) : Prop :=
  ∀ (p : Program) (e : Env) (R : Room) (s : State) (m : MethodId) (args : Array Value) (below : List Frame) (meth : Method) (c : Code) (Q : State → Prop) (r : av_Mr) (h0 hf h : av_H) (pc : Nat) (lv : av_L) (st : List av_V) (v : Option av_V),
    av_dok T r → av_Cx p R s m meth c a0 s0 D TY r.1 r.2.2.2.1 r.2.2.1 (decide (r.2.2.2.2.2.1 = 1)) h0 hf → R.frames = r.2.2.2.2.2.2.2.1 → R.locals = r.2.2.2.2.2.2.2.2.1 →
    (∀ (pc' : Nat) (lv' : av_L) (ins : Instr), decode r.2.2.1 pc' = .ok (ins, 1) → av_rtk r.2.2.2.2.1 ins v → av_W p l e R s m args below meth c Q s0 D TY kr sc r.2.2.2.1 h0 pc' lv' v.toList hf) →
    av_run (av_Pt T) sc n r.2.2.2.2.2.2.2.2.2 pc lv st h = some (v, hf) → av_W p l e R s m args below meth c Q s0 D TY kr sc r.2.2.2.1 h0 pc lv st h
theorem av_met {n : Nat} (hZ : av_Z a0 s0 D TY) (hB : av_Bd l a0 s0 D TY kr none T n) {r : av_Mr} (hd : av_dok T r) (hh : av_hok r) {vs : List av_V} {h h' : av_H} {v : Option av_V} (ha : (av_args vs).length ≤ r.2.2.2.1) (hr : av_run (av_Pt T) none n r.2.2.2.2.2.2.2.2.2 0 (av_ent r.2.2.2.1 vs) [] h = some (v, h')) : av_Mt l s0 D TY kr sc r vs h v h' := by
  have hmono := av_mono _ _ _ _ _ _ _ _ _ _ hr
  refine Met.ofW (cc := r.2.2.1) (maxL := r.2.2.2.1) (ret := r.2.2.2.2.1) hh.1 rfl ?_
  intro p e s m args below meth c s₁ B hml hv
  obtain ⟨rfl, hW, hR⟩ := hv
  have hown : s.vm.findClass (av_cn r.1) = some m.cls := by
    rw [hh.2.1]
    exact findClass_of_methodNamed B.named
  have hin : decide (r.2.2.2.2.2.1 = 1) = true → meth.name = "<init>" := by
    intro q
    have q := of_decide_eq_true q
    rcases hh.2.2.2.2.2.2 with g | g | g
    · omega
    · rw [(name_of_methodNamed B.named B.method).1]
      exact g.2.1
    · omega
  have hlocks := B.notSynchronized
  have C : av_Cx p (headSpec [Cond.code r.2.1 r.2.2.1 r.2.2.2.1 r.2.2.2.2.1] (av_Rm r h h')).room s m meth c a0 s0 D TY r.1 r.2.2.2.1 r.2.2.1 (decide (r.2.2.2.2.2.1 = 1)) h h' :=
    ⟨B.exec, B.bytes, hml, hown, hW, hZ, hin, Nat.le_refl _, Nat.le_refl _⟩
  have hret : ∀ (pc' : Nat) (lv' : av_L) (ins : Instr), decode r.2.2.1 pc' = .ok (ins, 1) → av_rtk r.2.2.2.2.1 ins v → av_W p l e (headSpec [Cond.code r.2.1 r.2.2.1 r.2.2.2.1 r.2.2.2.2.1] (av_Rm r h h')).room s m (vs.map (av_ev s0.heap.size kr)).toArray below meth c (MQ below (av_Qm s0 D TY kr sc v h') (vs.map (av_ev s0.heap.size kr)).toArray s (h'.1 - h.1) (h'.2.1 - h.2.1) (fun q => s0.heap.size ≤ q)) s0 D TY kr sc r.2.2.2.1 h pc' lv' v.toList h' := by
    intro pc' lv' ins hdg hk H locs ls hR' hl hL _ _
    have hq : ∀ t : State, t.heap = H → s.WarmedH t.vm → av_Qm s0 D TY kr sc v h' (vs.map (av_ev s0.heap.size kr)).toArray s (.returned (v.map (av_ev s0.heap.size kr))) t := fun t ht _ => ⟨rfl, by rw [ht]; exact hR'⟩
    rcases hk with ⟨rfl, rfl, hrt⟩ | ⟨rfl, x, rfl, hrt⟩ | ⟨rfl, q, rfl, t, hrt, hty⟩
    · exact W.vret B.exec B.bytes (B.returns.trans hrt) hq hl hdg
    · rcases hrt with hrt | ⟨hrt, hx⟩
      · exact W.iret B.exec B.bytes (B.returns.trans hrt) hq hl hdg
      · exact W.zret B.exec B.bytes (B.returns.trans hrt) (av_bool hx).1 hq hl hdg
    · exact W.aret B.exec B.bytes (B.returns.trans hrt) hty (va_rf_or _) hq hl hdg
  have hw := hB p e (headSpec [Cond.code r.2.1 r.2.2.1 r.2.2.2.1 r.2.2.2.2.1] (av_Rm r h h')).room s m (vs.map (av_ev s0.heap.size kr)).toArray below meth c (MQ below (av_Qm s0 D TY kr sc v h') (vs.map (av_ev s0.heap.size kr)).toArray s (h'.1 - h.1) (h'.2.1 - h.2.1) (fun q => s0.heap.size ≤ q)) r h h' h 0 (av_ent r.2.2.2.1 vs) [] v hd C rfl rfl hret hr
  have hw := hw s.heap [] _ hR (fun q hq => by cases hq) (av_entry ha) (Nat.le_refl _) (Nat.le_refl _)
  rw [lg_entry_eq]
  rw [Nat.sub_self, Nat.sub_self] at hw
  exact hw
theorem av_blindM {vs : List av_V} {h : av_H} : FrameBlind (av_Pm s0 D TY kr sc vs h) := fun _ _ _ _ q => q
/-- behind a call, by what the callee's contract says -/
theorem av_back {p : Program} {e : Env} {R : Room} {s : State} {m : MethodId} {args : Array Value} {below : List Frame} {meth : Method} {c : Code} {Q : State → Prop} {nL : Nat} {h0 h h1 : av_H} {pc : Nat} {lv : av_L} {rst : List av_V} {v : Option av_V} {H : Heap} {locs : List Loc} {ls : Array Slot} {st0 : List Value} {vs : Array Value}
    (hr : va_Run p l e R s m args below meth c H locs (h.1 - h0.1) (h.2.1 - h0.2.1) (h1.1 - h.1) (h1.2.1 - h.2.1) (F0 m pc ls st0) (rst.map (av_ev s0.heap.size kr)) (av_Qm s0 D TY kr sc v h1 vs) (fun q => s0.heap.size ≤ q))
    (hg : av_gr h h1) (hl : ∀ q ∈ locs, s0.heap.size ≤ q.base) (hL : av_Lr s0.heap.size kr ls nL lv) (g1 : h0.1 ≤ h.1) (g2 : h0.2.1 ≤ h.2.1) (k : av_W p l e R s m args below meth c Q s0 D TY kr sc nL h0 (pc + 3) lv (v.toList ++ rst) h1) :
    W p l e R s m args below meth c H locs (h.1 - h0.1) (h.2.1 - h0.2.1) Q (F0 m pc ls st0) := by
  intro T hT X
  obtain ⟨v', st₀, t, T', L, e0, X', hL', e1, e2, ⟨hv, hRt⟩, step⟩ := hr T hT X
  have hv : v' = v.map (av_ev s0.heap.size kr) := by
    have := hv
    simpa using this
  subst hv
  have hg1 := hg.1
  have hg2 := hg.2
  have kk := k T'.heap (locs ++ L) ls (by rw [e1]; exact hRt) (fun q hq => by
    rcases List.mem_append.mp hq with hq | hq
    · exact hl q hq
    · exact hL' q hq) hL (by omega) (by omega)
  rw [show h1.1 - h0.1 = h.1 - h0.1 + (h1.1 - h.1) by omega, show h1.2.1 - h0.2.1 = h.2.1 - h0.2.1 + (h1.2.1 - h.2.1) by omega] at kk
  obtain ⟨t2, b1, b2⟩ := kk T' rfl X'
  refine ⟨t2, step t2 ?_, b2⟩
  have e3 : (v.map (av_ev s0.heap.size kr)).toList ++ rst.map (av_ev s0.heap.size kr) = (v.toList ++ rst).map (av_ev s0.heap.size kr) := by
    cases v <;> simp
  rw [e3]
  exact b1
end AVR
