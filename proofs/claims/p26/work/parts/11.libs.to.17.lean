section
/-! ONE STEP: the library's own members, constants -/
section AVB
variable {p : Program} {l : Launch} {e : Env} {R : Room} {s : State} {m : MethodId} {args : Array Value} {below : List Frame} {meth : Method} {c : Code} {Q : State → Prop}
variable {a0 : Array Value} {s0 : State} {D : va_G} {TY : Nat → ClassId} {kr : Nat → Nat} {sc : av_Sr} {own nL : Nat} {cc : ByteArray} {ini : Bool} {h0 hf h h' : av_H} {pc pc' : Nat} {lv lv' : av_L} {st st' : List av_V}

theorem av_cats {z : Nat} {kr : Nat → Nat} (r : List av_V) : ((r.map (av_ev z kr)).map fun v => v.category).sum = (r.map av_cat).sum := by
  rw [List.map_map]
  congr 1
  exact List.map_congr_left (fun v _ => av_ev_cat z kr v)
theorem av_s_aast (C : av_Cx p R s m meth c a0 s0 D TY own nL cc ini h0 hf) (hd : decode cc pc = .ok (.aastore, 1)) (hs : av_aast pc lv st h = some (pc', lv', st', h')) (k : av_W p l e R s m args below meth c Q s0 D TY kr sc nL h0 pc' lv' st' h') : av_W p l e R s m args below meth c Q s0 D TY kr sc nL h0 pc lv st h := by
  intro H locs ls hR hl hL h1 h2
  unfold av_aast at hs
  split at hs
  · next v i o r =>
    split at hs
    · next hc =>
      cases hs
      obtain ⟨⟨ho, hk⟩, hi, hv⟩ := hc
      obtain ⟨hin, hlt⟩ := av_inP hi
      have go : ∀ (kk ci : Nat), (h.2.2.1 o).1 = kk → 30 ≤ kk → kk ∈ [20, 21, 22, 30, 31, 32] → ci < 9 → av_ft kk = .object (av_cn ci) → (∀ q, v = some q → q < h.1 ∧ (h.2.2.1 q).1 = ci) → W p l e R s m args below meth c H locs (h.1 - h0.1) (h.2.1 - h0.2.1) Q (F0 m pc ls ((.inr (.inr (.inl v)) :: .inl i :: .inr (.inr (.inl (some o))) :: st').map (av_ev s0.heap.size kr))) := by
        intro kk ci hk h30 hm hci hft hq
        have hcell := av_arrR hR ho hk h30
        obtain ⟨ka, kra⟩ := av_ka C hm
        rw [hft] at ka kra
        have fin : ∀ (H' : Heap), H'[s0.heap.size + o]? = some ((arrV (TY kk) (h.2.2.1 o).2 (fun j => va_rf ((h.2.2.2.2.2.2.1 o j).map (fun q => s0.heap.size + q)))).setSlot (Int32.ofInt i).toNatClampNeg (va_rf (v.map (fun q => s0.heap.size + q)))) → H'.size = H.size → (∀ q, q ≠ s0.heap.size + o → H'[q]? = H[q]?) → W p l e R s m args below meth c H' (locs ++ [⟨s0.heap.size + o, (Int32.ofInt i).toNatClampNeg⟩]) (h.1 - h0.1) (h.2.1 - h0.2.1) Q (F0 m (pc + 1) ls (st'.map (av_ev s0.heap.size kr))) := by
          intro H' e1 e2 e3
          rw [av_nat] at e1
          exact k H' _ ls (av_R_upd hR e2 e3 rfl rfl rfl (fun k hk => ⟨rfl, rfl, rfl, av_u2_ne hk⟩) (av_at_setR hk h30 e1)) (av_locs hl rfl) hL h1 h2
        cases v with
        | none => exact va_WaastN (C := av_cn ci) C.1 C.2.1 hcell (ka _ _) (fun q => by cases q) (by rw [arrV_size]; exact hin) rfl rfl hd (fun H' e1 e2 e3 => fin H' e1 e2 e3)
        | some q =>
          obtain ⟨hq1, hq2⟩ := hq q rfl
          have hat := hR.2.2.2 q hq1
          unfold av_at at hat
          rw [if_pos (by rw [hq2]; exact hci), hq2] at hat
          obtain ⟨cv, g1, g2, g3, -⟩ := hat
          have hcls := (av_kn C hci).2
          obtain ⟨kA, comp, k1, k2, k3, -⟩ := kra
          have hcomp : comp = D.1 ci := Option.some.inj (k3.symm.trans hcls.1)
          subst hcomp
          obtain ⟨kC, hkC, -⟩ := hcls.2
          exact W.aast C.1 C.2.1 hcell (fun q h => by cases h) (fun h => by cases h) k1 k2 rfl hkC ⟨fun q => hin (Or.inl q), by rw [arrV_size, av_nat]; exact hlt⟩ g1 (fun q h => by rw [g3] at h; cases h) (by rw [g2]; exact hkC) (by rw [g2]; exact va_assign hcls) rfl rfl hd (fun H' e1 e2 e3 => fin H' e1 e2 e3)
      rcases hk with hk | hk
      · refine go 30 1 hk (by omega) (by decide) (by omega) rfl (fun q hq => ?_)
        subst hq
        have := of_decide_eq_true hv
        rw [if_pos hk] at this
        exact this
      · refine go 31 5 hk (by omega) (by decide) (by omega) rfl (fun q hq => ?_)
        subst hq
        have := of_decide_eq_true hv
        rw [if_neg (by omega)] at this
        exact this
    · cases hs
  · cases hs
theorem av_s_objInit {idx : Nat} {v : Nat} {r : List av_V} (C : av_Cx p R s m meth c a0 s0 D TY own nL cc ini h0 hf) (hd : decode cc pc = .ok (.invokespecial idx, 3)) (hlk : Cond.methodLink (av_cn own) idx Lib.objectInit ∈ lw_tbl) (hin : Cond.instanceMethod Lib.objectInit ∈ lw_tbl) (hco : Cond.code Lib.objectInit ⟨#[0xb1]⟩ 1 none ∈ lw_tbl) (hr : (r.map av_cat).sum ≤ 8) (hfr : 1 ≤ R.frames) (hlo : 40 ≤ R.locals) (k : av_W p l e R s m args below meth c Q s0 D TY kr sc nL h0 (pc + 3) lv r h) : av_W p l e R s m args below meth c Q s0 D TY kr sc nL h0 pc lv (.inr (.inr (.inl (some v))) :: r) h :=
  fun H locs ls hR hl hL h1 h2 => W.objInit C.1 C.2.1 C.2.2.2.1 (av_wd C hlk rfl) (av_wd C hin rfl) (av_wd C hco rfl) rfl (hL.1.trans C.2.2.1.symm) rfl hd hfr (by
    have := lv_room (m := m) (pc := pc) (ls := ls) (rest := r.map (av_ev s0.heap.size kr)) (st := r.map (av_ev s0.heap.size kr)) (by rw [av_cats]; exact hr)
    show 2 * 0 + _ + 12 ≤ _
    rw [av_cats]
    omega) (k H locs ls hR hl hL h1 h2)
theorem av_s_max {idx : Nat} {x y : Int} {r : List av_V} (C : av_Cx p R s m meth c a0 s0 D TY own nL cc ini h0 hf) (hd : decode cc pc = .ok (.invokestatic idx, 3)) (hlk : Cond.methodLink (av_cn own) idx Lib.Math.max.name ∈ lw_tbl) (hst : Cond.static Lib.Math.max.name ∈ lw_tbl) (hini : Cond.initialized "java/lang/Math" ∈ lw_tbl) (hco : Cond.code Lib.Math.max.name Lib.Math.max.code 2 (some .int) ∈ lw_tbl) (hr : (r.map av_cat).sum ≤ 8) (hfr : 1 ≤ R.frames) (hlo : 40 ≤ R.locals) (hle : h.1 ≤ hf.1 ∧ h.2.1 ≤ hf.2.1) (k : av_W p l e R s m args below meth c Q s0 D TY kr sc nL h0 (pc + 3) lv (.inl (if av_w x < av_w y then y else x) :: r) h) : av_W p l e R s m args below meth c Q s0 D TY kr sc nL h0 pc lv (.inl y :: .inl x :: r) h := by
  intro H locs ls hR hl hL h1 h2
  have hrm := C.2.2.2.2.2.2.2
  refine va_mmax C.1 C.2.1 (C.2.2.1.trans hL.1.symm) C.2.2.2.1 (av_wd C hlk rfl) (av_wd C hst rfl) (av_wd C hini rfl) (av_wd C hco rfl) hfr (by rw [av_cats]; omega) (by omega) (by omega) hd (lv_topi (fun v hv => ?_))
  have hv : v = Int32.ofInt (if av_w x < av_w y then y else x) := by
    rw [hv]
    by_cases q : av_w x < av_w y
    · rw [if_pos q, if_pos ((av_lt x y).mpr q)]
    · rw [if_neg q, if_neg (fun z => q ((av_lt x y).mp z))]
  subst hv
  exact k H locs ls hR hl hL h1 h2
theorem av_s_min {idx : Nat} {x y : Int} {r : List av_V} (C : av_Cx p R s m meth c a0 s0 D TY own nL cc ini h0 hf) (hd : decode cc pc = .ok (.invokestatic idx, 3)) (hlk : Cond.methodLink (av_cn own) idx Lib.Math.min.name ∈ lw_tbl) (hst : Cond.static Lib.Math.min.name ∈ lw_tbl) (hini : Cond.initialized "java/lang/Math" ∈ lw_tbl) (hco : Cond.code Lib.Math.min.name Lib.Math.min.code 2 (some .int) ∈ lw_tbl) (hr : (r.map av_cat).sum ≤ 8) (hfr : 1 ≤ R.frames) (hlo : 40 ≤ R.locals) (hle : h.1 ≤ hf.1 ∧ h.2.1 ≤ hf.2.1) (k : av_W p l e R s m args below meth c Q s0 D TY kr sc nL h0 (pc + 3) lv (.inl (if av_w y < av_w x then y else x) :: r) h) : av_W p l e R s m args below meth c Q s0 D TY kr sc nL h0 pc lv (.inl y :: .inl x :: r) h := by
  intro H locs ls hR hl hL h1 h2
  have hrm := C.2.2.2.2.2.2.2
  refine va_mmin C.1 C.2.1 (C.2.2.1.trans hL.1.symm) C.2.2.2.1 (av_wd C hlk rfl) (av_wd C hst rfl) (av_wd C hini rfl) (av_wd C hco rfl) hfr (by rw [av_cats]; omega) (by omega) (by omega) hd (lv_topi (fun v hv => ?_))
  have hv : v = Int32.ofInt (if av_w y < av_w x then y else x) := by
    rw [hv]
    by_cases q : av_w y < av_w x
    · rw [if_pos q, if_pos ((av_lt y x).mpr q)]
    · rw [if_neg q, if_neg (fun z => q ((av_lt y x).mp z))]
  subst hv
  exact k H locs ls hR hl hL h1 h2
theorem av_nn (x : Int) (h : 0 ≤ av_w x) : (Int32.ofInt x).toInt = (((av_w x).toNat : Nat) : Int) := by
  rw [av_w_eq]
  omega
/-- the row d behind a copy -/
theorem av_at_cpy {H1 : Heap} {z d sp dp n : Nat} {f : Nat → Int} (hk : (h.2.2.1 d).1 = 20) (hc : H1[z + d]? = some (arrV (TY 20) (h.2.2.1 d).2 (fun j => .int (va_cpy (fun i => Int32.ofInt (f i)) (fun i => Int32.ofInt (h.2.2.2.1 d i)) sp dp n j)))) : av_at z D TY (h.1, h.2.1, h.2.2.1, av_cpy h.2.2.2.1 d sp dp n f, h.2.2.2.2) d H1 := by
  unfold av_at
  dsimp only
  rw [if_neg (by omega), if_pos (by omega), hc, hk]
  congr 2
  funext j
  by_cases q : dp ≤ j ∧ j < dp + n
  · simp [va_cpy, av_cpy, q]
  · simp [va_cpy, av_cpy, q]
theorem av_cpy_ne {A : Nat → Nat → Int} {d sp dp n a : Nat} {f : Nat → Int} (h : a ≠ d) : av_cpy A d sp dp n f a = A a := by
  funext j
  simp [av_cpy, h]
theorem av_nfw : nativeFrameWords "java/lang/System" "arraycopy" 5 = 7 := by decide +kernel
theorem av_s_copy {idx d q : Nat} {n dp sp : Int} {r : List av_V} (C : av_Cx p R s m meth c a0 s0 D TY own nL cc ini h0 hf) (hd : decode cc pc = .ok (.invokestatic idx, 3)) (hlk : Cond.methodLink (av_cn own) idx arraycopyName ∈ lw_tbl) (hna : Cond.native arraycopyName ∈ lw_tbl) (hst : Cond.static arraycopyName ∈ lw_tbl) (hini : Cond.initialized "java/lang/System" ∈ lw_tbl) (hr : (r.map av_cat).sum ≤ 8) (hfr : 1 ≤ R.frames) (hlo : 40 ≤ R.locals)
    (hc : (d < h.1 ∧ (h.2.2.1 d).1 = 20) ∧ (q < h.1 ∧ (h.2.2.1 q).1 = 20) ∧ (0 ≤ av_w n ∧ 0 ≤ av_w dp ∧ 0 ≤ av_w sp) ∧ av_w sp + av_w n ≤ (h.2.2.1 q).2 ∧ av_w dp + av_w n ≤ (h.2.2.1 d).2)
    (k : av_W p l e R s m args below meth c Q s0 D TY kr sc nL h0 (pc + 3) lv r (h.1, h.2.1, h.2.2.1, av_cpy h.2.2.2.1 d (av_w sp).toNat (av_w dp).toNat (av_w n).toNat (h.2.2.2.1 q), h.2.2.2.2)) : av_W p l e R s m args below meth c Q s0 D TY kr sc nL h0 pc lv (.inl n :: .inl dp :: .inr (.inr (.inl (some d))) :: .inl sp :: .inr (.inr (.inl (some q))) :: r) h := by
  intro H locs ls hR hl hL h1 h2
  obtain ⟨c1, c2, ⟨c3, c4, c5⟩, c6, c7⟩ := hc
  have hc0 := av_arrN hR c2.1 c2.2 (by omega) (by omega)
  have hc1 := av_arrN hR c1.1 c1.2 (by omega) (by omega)
  obtain ⟨-, k0, hk0, cm0, hkk0⟩ := (av_ka C (k := 20) (by decide)).1 (h.2.2.1 q).2 (fun j => .int (Int32.ofInt (h.2.2.2.1 q j)))
  intro T hT X
  obtain ⟨vm', X', step⟩ := X.arraycopy C.1 C.2.2.2.1 (av_wd C hlk rfl) (av_wd C hna rfl) (av_wd C hst rfl) (av_wd C hini rfl) (src := s0.heap.size + q) (dst := s0.heap.size + d) (cs := arrV (TY 20) (h.2.2.1 q).2 (fun j => .int (Int32.ofInt (h.2.2.2.1 q j)))) (cd := arrV (TY 20) (h.2.2.1 d).2 (fun j => .int (Int32.ofInt (h.2.2.2.1 d j)))) (srcPos := Int32.ofInt sp) (destPos := Int32.ofInt dp) (n := Int32.ofInt n) (by rw [hT]; exact hc0) (by rw [hT]; exact hc1)
    (fun _ h => by cases h) (fun _ h => by cases h) (fun h => by cases h) (fun h => by cases h) hk0 hk0 hkk0 hkk0 (by simp [refKind, av_ft]) (by rw [av_lt0]; omega) (by rw [av_lt0]; omega) (by rw [av_lt0]; omega)
    (by rw [av_nn sp c5, av_nn n c3, arrV_size]; omega)
    (by rw [av_nn dp c4, av_nn n c3, arrV_size]; omega)
    (fun vm₁ _ i hi => by
      rw [av_nat] at hi
      have e : (arrV (TY 20) (h.2.2.1 q).2 (fun j => .int (Int32.ofInt (h.2.2.2.1 q j)))).slots.getD ((Int32.ofInt sp).toNatClampNeg + i) .null = .int (Int32.ofInt (h.2.2.2.1 q ((Int32.ofInt sp).toNatClampNeg + i))) := by
        rw [Array.getD_eq_getD_getElem?, arrV_read _ _ (by rw [av_nat]; omega)]
        rfl
      refine ⟨?_, ?_⟩
      · rw [e]
        rfl
      · rw [e]
        exact trivial)
    (g := F0 m pc ls (.int (Int32.ofInt n) :: .int (Int32.ofInt dp) :: .ref (s0.heap.size + d) :: .int (Int32.ofInt sp) :: .ref (s0.heap.size + q) :: r.map (av_ev s0.heap.size kr))) rfl (by rw [C.2.2.1]; exact hL.1) (rest := r.map (av_ev s0.heap.size kr)) rfl (by rw [C.2.1]; exact hd) hfr (by show 2 * 0 + _ + (nativeFrameWords "java/lang/System" "arraycopy" 5 + 11) ≤ _; rw [av_cats, av_nfw]; omega)
  have e1 : copied (arrV (TY 20) (h.2.2.1 q).2 (fun j => .int (Int32.ofInt (h.2.2.2.1 q j)))) (arrV (TY 20) (h.2.2.1 d).2 (fun j => .int (Int32.ofInt (h.2.2.2.1 d j)))) (Int32.ofInt sp) (Int32.ofInt dp) (Int32.ofInt n) = arrV (TY 20) (h.2.2.1 d).2 (fun j => .int (va_cpy (fun i => Int32.ofInt (h.2.2.2.1 q i)) (fun i => Int32.ofInt (h.2.2.2.1 d i)) (Int32.ofInt sp).toNatClampNeg (Int32.ofInt dp).toNatClampNeg (Int32.ofInt n).toNatClampNeg j)) :=
    va_copied (fun z => .int z) (TY 20) (TY 20) (fun i => Int32.ofInt (h.2.2.2.1 q i)) (fun i => Int32.ofInt (h.2.2.2.1 d i)) (by rw [av_nat, av_nat]; omega)
  rw [e1, av_nat, av_nat, av_nat] at X' step
  have hdl : s0.heap.size + d < H.size := (Array.getElem?_eq_some_iff.mp hc1).1
  have hR' : av_R s0 D TY sc (h.1, h.2.1, h.2.2.1, av_cpy h.2.2.2.1 d (av_w sp).toNat (av_w dp).toNat (av_w n).toNat (h.2.2.2.1 q), h.2.2.2.2) (H.setIfInBounds (s0.heap.size + d) (arrV (TY 20) (h.2.2.1 d).2 (fun j => .int (va_cpy (fun i => Int32.ofInt (h.2.2.2.1 q i)) (fun i => Int32.ofInt (h.2.2.2.1 d i)) (av_w sp).toNat (av_w dp).toNat (av_w n).toNat j)))) := by
    refine av_R_upd (o := d) hR (by simp) (fun x hx => by simp [Array.getElem?_setIfInBounds, Ne.symm hx]) rfl rfl rfl (fun k hk => ⟨av_cpy_ne hk, rfl, rfl, rfl⟩) (av_at_cpy c1.2 ?_)
    simp [Array.getElem?_setIfInBounds, hdl]
  obtain ⟨t, a1, b1⟩ := k _ _ ls hR' (fun x hx => by
      rcases List.mem_append.mp hx with hx | hx
      · exact hl x hx
      · obtain ⟨y, -, hy⟩ := List.mem_map.mp hx
        rw [← hy]
        exact Nat.le_add_right _ _) hL h1 h2 _ (by rw [← hT]; rfl) X'
  exact ⟨t, step t a1, b1⟩

/-- the plain law, as the start has it -/
def av_Pl (s0 : State) (kr : Nat → Nat) : Prop := va_Z RX7 "PLAIN_LAW" "[I" (.ref (kr 101)) (fun q => s0.heap.size ≤ q) s0 s0.heap ∧ va_T .int (kr 101) 14 (fun j => .int (Int32.ofInt (av_plain j))) (fun q => s0.heap.size ≤ q) s0 s0.heap
theorem av_old {H : Heap} (hR : av_R s0 D TY sc h H) : ∀ a : Nat, a < s0.heap.size → ¬ (fun q => s0.heap.size ≤ q) a → H[a]? = s0.heap[a]? := fun a ha _ => hR.2.1 a ha
theorem av_s_copyP {idx d : Nat} {n dp sp : Int} {r : List av_V} (C : av_Cx p R s m meth c a0 s0 D TY own nL cc ini h0 hf) (hPl : av_Pl s0 kr) (hd : decode cc pc = .ok (.invokestatic idx, 3)) (hlk : Cond.methodLink (av_cn own) idx arraycopyName ∈ lw_tbl) (hna : Cond.native arraycopyName ∈ lw_tbl) (hst : Cond.static arraycopyName ∈ lw_tbl) (hini : Cond.initialized "java/lang/System" ∈ lw_tbl) (hr : (r.map av_cat).sum ≤ 8) (hfr : 1 ≤ R.frames) (hlo : 40 ≤ R.locals)
    (hc : (d < h.1 ∧ (h.2.2.1 d).1 = 20) ∧ (0 ≤ av_w n ∧ 0 ≤ av_w dp ∧ 0 ≤ av_w sp) ∧ av_w sp + av_w n ≤ 14 ∧ av_w dp + av_w n ≤ (h.2.2.1 d).2)
    (k : av_W p l e R s m args below meth c Q s0 D TY kr sc nL h0 (pc + 3) lv r (h.1, h.2.1, h.2.2.1, av_cpy h.2.2.2.1 d (av_w sp).toNat (av_w dp).toNat (av_w n).toNat av_plain, h.2.2.2.2)) : av_W p l e R s m args below meth c Q s0 D TY kr sc nL h0 pc lv (.inl n :: .inl dp :: .inr (.inr (.inl (some d))) :: .inl sp :: .inr (.inr (.inr 101)) :: r) h := by
  intro H locs ls hR hl hL h1 h2
  obtain ⟨c1, ⟨c3, c4, c5⟩, c6, c7⟩ := hc
  obtain ⟨scr, hs1, hs2, hs3, hs4, -, hs5, hs7⟩ := (hPl.2.moved C.2.2.2.2.1.alike).kept (av_old hR)
  have hc1 := av_arrN hR c1.1 c1.2 (by omega) (by omega)
  obtain ⟨hs6, k0, hk0, cm0, hkk0⟩ := hs2
  obtain ⟨-, k1, hk1, cm1, hkk1⟩ := (av_ka C (k := 20) (by decide)).1 (h.2.2.1 d).2 (fun j => .int (Int32.ofInt (h.2.2.2.1 d j)))
  intro T hT X
  obtain ⟨vm', X', step⟩ := X.arraycopy C.1 C.2.2.2.1 (av_wd C hlk rfl) (av_wd C hna rfl) (av_wd C hst rfl) (av_wd C hini rfl) (src := kr 101) (dst := s0.heap.size + d) (cs := scr) (cd := arrV (TY 20) (h.2.2.1 d).2 (fun j => .int (Int32.ofInt (h.2.2.2.1 d j)))) (srcPos := Int32.ofInt sp) (destPos := Int32.ofInt dp) (n := Int32.ofInt n) (by rw [hT]; exact hs1) (by rw [hT]; exact hc1)
    hs6 (fun _ h => by cases h) hs3 (fun h => by cases h) hk0 hk1 hkk0 hkk1 (by simp [refKind, av_ft]) (by rw [av_lt0]; omega) (by rw [av_lt0]; omega) (by rw [av_lt0]; omega)
    (by rw [av_nn sp c5, av_nn n c3]; omega)
    (by rw [av_nn dp c4, av_nn n c3, arrV_size]; omega)
    (fun vm₁ _ i hi => by
      rw [av_nat] at hi
      have e : scr.slots.getD ((Int32.ofInt sp).toNatClampNeg + i) .null = .int (Int32.ofInt (av_plain ((Int32.ofInt sp).toNatClampNeg + i))) := by
        rw [Array.getD_eq_getD_getElem?, hs5 _ (by rw [av_nat]; omega)]
        rfl
      refine ⟨?_, ?_⟩
      · rw [e]
        rfl
      · rw [e]
        exact trivial)
    (g := F0 m pc ls (.int (Int32.ofInt n) :: .int (Int32.ofInt dp) :: .ref (s0.heap.size + d) :: .int (Int32.ofInt sp) :: .ref (kr 101) :: r.map (av_ev s0.heap.size kr))) rfl (by rw [C.2.2.1]; exact hL.1) (rest := r.map (av_ev s0.heap.size kr)) rfl (by rw [C.2.1]; exact hd) hfr (by show 2 * 0 + _ + (nativeFrameWords "java/lang/System" "arraycopy" 5 + 11) ≤ _; rw [av_cats, av_nfw]; omega)
  have e1 : copied scr (arrV (TY 20) (h.2.2.1 d).2 (fun j => .int (Int32.ofInt (h.2.2.2.1 d j)))) (Int32.ofInt sp) (Int32.ofInt dp) (Int32.ofInt n) = arrV (TY 20) (h.2.2.1 d).2 (fun j => .int (va_cpy (fun i => Int32.ofInt (av_plain i)) (fun i => Int32.ofInt (h.2.2.2.1 d i)) (Int32.ofInt sp).toNatClampNeg (Int32.ofInt dp).toNatClampNeg (Int32.ofInt n).toNatClampNeg j)) :=
    va_copiedX (fun z => .int z) scr (TY 20) (fun i => Int32.ofInt (av_plain i)) (fun i => Int32.ofInt (h.2.2.2.1 d i)) hs5 (by rw [av_nat, av_nat]; omega)
  rw [e1, av_nat, av_nat, av_nat] at X' step
  have hdl : s0.heap.size + d < H.size := (Array.getElem?_eq_some_iff.mp hc1).1
  have hR' : av_R s0 D TY sc (h.1, h.2.1, h.2.2.1, av_cpy h.2.2.2.1 d (av_w sp).toNat (av_w dp).toNat (av_w n).toNat av_plain, h.2.2.2.2) (H.setIfInBounds (s0.heap.size + d) (arrV (TY 20) (h.2.2.1 d).2 (fun j => .int (va_cpy (fun i => Int32.ofInt (av_plain i)) (fun i => Int32.ofInt (h.2.2.2.1 d i)) (av_w sp).toNat (av_w dp).toNat (av_w n).toNat j)))) := by
    refine av_R_upd (o := d) hR (by simp) (fun x hx => by simp [Array.getElem?_setIfInBounds, Ne.symm hx]) rfl rfl rfl (fun k hk => ⟨av_cpy_ne hk, rfl, rfl, rfl⟩) (av_at_cpy c1.2 ?_)
    simp [Array.getElem?_setIfInBounds, hdl]
  obtain ⟨t, a1, b1⟩ := k _ _ ls hR' (fun x hx => by
      rcases List.mem_append.mp hx with hx | hx
      · exact hl x hx
      · obtain ⟨y, -, hy⟩ := List.mem_map.mp hx
        rw [← hy]
        exact Nat.le_add_right _ _) hL h1 h2 _ (by rw [← hT]; rfl) X'
  exact ⟨t, step t a1, b1⟩
theorem av_s_gets {idx : Nat} (C : av_Cx p R s m meth c a0 s0 D TY own nL cc ini h0 hf) (hPl : av_Pl s0 kr) (hd : decode cc pc = .ok (.getstatic idx, 3)) (hlk : Cond.fieldLink (av_cn own) idx RX7 "PLAIN_LAW" "[I" ∈ lw_tbl ∨ ∃ host, Cond.fieldLinkNest (av_cn own) idx RX7 "PLAIN_LAW" "[I" host ∈ lw_tbl) (k : av_W p l e R s m args below meth c Q s0 D TY kr sc nL h0 (pc + 3) lv (.inr (.inr (.inr 101)) :: st) h) : av_W p l e R s m args below meth c Q s0 D TY kr sc nL h0 pc lv st h := by
  intro H locs ls hR hl hL h1 h2
  obtain ⟨cf, kf, fi, f, a, cell, g1, g2, g3, g4, g5, g6, g7, g8⟩ := (hPl.1.moved C.2.2.2.2.1.alike).kept (av_old hR)
  rcases hlk with hlk | ⟨host, hlk⟩
  · exact W.gets C.1 C.2.1 C.2.2.2.1 (av_wd C hlk rfl) g1 g2 g3 g4 g5 (fun e => by rw [e] at g6; cases g6) g7 rfl hd (k H locs ls hR hl hL h1 h2)
  · exact va_WgetsN C.1 C.2.1 C.2.2.2.1 (av_wdF C hlk) g1 g2 g3 g4 g5 (fun e => by rw [e] at g6; cases g6) g7 rfl hd (k H locs ls hR hl hL h1 h2)
theorem av_s_ldc {idx : Nat} {v : Int} (C : av_Cx p R s m meth c a0 s0 D TY own nL cc ini h0 hf) (hd : decode cc pc = .ok (.ldc idx, 2)) (hc : Cond.constant (av_cn own) idx (Int32.ofInt v) ∈ lw_tbl) (k : av_W p l e R s m args below meth c Q s0 D TY kr sc nL h0 (pc + 2) lv (.inl v :: st) h) : av_W p l e R s m args below meth c Q s0 D TY kr sc nL h0 pc lv st h :=
  fun H locs ls hR hl hL h1 h2 => lv_ldc C.1 C.2.1 C.2.2.2.1 (av_wd C hc rfl) hd (k H locs ls hR hl hL h1 h2)
theorem av_s_ldcw {idx : Nat} {v : Int} (C : av_Cx p R s m meth c a0 s0 D TY own nL cc ini h0 hf) (hd : decode cc pc = .ok (.ldc_w idx, 3)) (hc : Cond.constant (av_cn own) idx (Int32.ofInt v) ∈ lw_tbl) (k : av_W p l e R s m args below meth c Q s0 D TY kr sc nL h0 (pc + 3) lv (.inl v :: st) h) : av_W p l e R s m args below meth c Q s0 D TY kr sc nL h0 pc lv st h :=
  fun H locs ls hR hl hL h1 h2 => lv_ldcw C.1 C.2.1 C.2.2.2.1 (av_wd C hc rfl) hd (k H locs ls hR hl hL h1 h2)
theorem av_s_ldc2 {idx : Nat} {v : Int} (C : av_Cx p R s m meth c a0 s0 D TY own nL cc ini h0 hf) (hd : decode cc pc = .ok (.ldc2_w idx, 3)) (hc : Cond.constantLong (av_cn own) idx (Int64.ofInt v) ∈ lw_tbl) (k : av_W p l e R s m args below meth c Q s0 D TY kr sc nL h0 (pc + 3) lv (.inr (.inl v) :: st) h) : av_W p l e R s m args below meth c Q s0 D TY kr sc nL h0 pc lv st h :=
  fun H locs ls hR hl hL h1 h2 => lv_ldc2 C.1 C.2.1 C.2.2.2.1 (av_wd C hc rfl) hd (k H locs ls hR hl hL h1 h2)
theorem av_s_ldcS {idx q : Nat} {tx : String} (C : av_Cx p R s m meth c a0 s0 D TY own nL cc ini h0 hf) (hd : decode cc pc = .ok (.ldc idx, 2)) (hc : vk_R (av_cn own) idx tx (kr q) s0) (k : av_W p l e R s m args below meth c Q s0 D TY kr sc nL h0 (pc + 2) lv (.inr (.inr (.inr q)) :: st) h) : av_W p l e R s m args below meth c Q s0 D TY kr sc nL h0 pc lv st h :=
  fun H locs ls hR hl hL h1 h2 => va_ldcS C.1 C.2.1 C.2.2.2.1 (hc.warm C.2.2.2.2.1) hd (k H locs ls hR hl hL h1 h2)
theorem av_s_cast {idx o : Nat} {r : List av_V} (C : av_Cx p R s m meth c a0 s0 D TY own nL cc ini h0 hf) (hd : decode cc pc = .ok (.checkcast idx, 3)) (hlk : Cond.classLink (av_cn own) idx "[I" ∈ lw_tbl) (ho : o < h.1 ∧ (h.2.2.1 o).1 = 20) (k : av_W p l e R s m args below meth c Q s0 D TY kr sc nL h0 (pc + 3) lv (.inr (.inr (.inl (some o))) :: r) h) : av_W p l e R s m args below meth c Q s0 D TY kr sc nL h0 pc lv (.inr (.inr (.inl (some o))) :: r) h := by
  intro H locs ls hR hl hL h1 h2
  have hcell := av_arrN hR ho.1 ho.2 (by omega) (by omega)
  exact va_castE C.1 C.2.1 C.2.2.2.1 (av_wd C hlk rfl) ⟨_, hcell, rfl, av_ra C (k := 20) (by decide)⟩ hd (k H locs ls hR hl hL h1 h2)
theorem av_s_clone {idx o : Nat} {r : List av_V} (C : av_Cx p R s m meth c a0 s0 D TY own nL cc ini h0 hf) (hd : decode cc pc = .ok (.invokevirtual idx, 3)) (hlk : Cond.methodLink (av_cn own) idx ⟨"[I", "clone", "()Ljava/lang/Object;"⟩ ∈ lw_tbl) (hsm : Cond.sameMethod "[I" "java/lang/Object" "clone" "()Ljava/lang/Object;" ∈ lw_tbl) (hna : Cond.native ⟨"java/lang/Object", "clone", "()Ljava/lang/Object;"⟩ ∈ lw_tbl) (hin : Cond.instanceMethod ⟨"java/lang/Object", "clone", "()Ljava/lang/Object;"⟩ ∈ lw_tbl)
    (hse : Cond.selects "[I" ⟨"[I", "clone", "()Ljava/lang/Object;"⟩ ⟨"java/lang/Object", "clone", "()Ljava/lang/Object;"⟩ ∈ lw_tbl) (hca : Cond.castable "[I" "java/lang/Cloneable" ∈ lw_tbl) (ho : o < h.1 ∧ (h.2.2.1 o).1 = 20) (hr : (r.map av_cat).sum ≤ 8) (hfr : 1 ≤ R.frames) (hlo : 40 ≤ R.locals) (hle : (av_newN 20 (h.2.2.1 o).2 (h.2.2.2.1 o) h).1 ≤ hf.1 ∧ (av_newN 20 (h.2.2.1 o).2 (h.2.2.2.1 o) h).2.1 ≤ hf.2.1)
    (k : av_W p l e R s m args below meth c Q s0 D TY kr sc nL h0 (pc + 3) lv (.inr (.inr (.inl (some h.1))) :: r) (av_newN 20 (h.2.2.1 o).2 (h.2.2.2.1 o) h)) : av_W p l e R s m args below meth c Q s0 D TY kr sc nL h0 pc lv (.inr (.inr (.inl (some o))) :: r) h := by
  intro H locs ls hR hl hL h1 h2
  simp only [av_newN] at hle
  have hroom : h.1 - h0.1 + 1 ≤ R.cells ∧ h.2.1 - h0.2.1 + (h.2.2.1 o).2 ≤ R.slots := by
    have := C.2.2.2.2.2.2.2
    omega
  have hcell := av_arrN hR ho.1 ho.2 (by omega) (by omega)
  have hnm := av_ra C (k := 20) (by decide)
  have hK : va_K D [] [(TY 20, .int)] s := ⟨fun c q hq => by simp at hq, fun k q hq => by
    rcases k with _ | k
    · cases hq
      exact av_ka C (k := 20) (by decide)
    · simp at hq⟩
  have hsz := hR.1
  obtain ⟨c0, t0', f1, f2, f3⟩ := Cond.castable_spec (va_Nw.use (A := args) rfl (va_Nw.warmC C.2.2.2.2.1 (va_Nw.of rfl (C.2.2.2.2.2.1.1 _ hca))))
  cases hnm.symm.trans f1
  obtain ⟨-, kS, hkS, compS, hkindS⟩ := (av_ka C (k := 20) (by decide)).1 0 (fun _ => .null)
  intro T hT X
  obtain ⟨-, kA, hkA, comp, hkind⟩ := State.isArrayOf_alike X.warmed.alike ((av_ka C (k := 20) (by decide)).1 0 (fun _ => .null))
  have hcellT : T.heap[s0.heap.size + o]? = some (arrV (TY 20) (h.2.2.1 o).2 (fun j => .int (Int32.ofInt (h.2.2.2.1 o j)))) := by rw [hT]; exact hcell
  obtain ⟨vm', X', st'⟩ := X.cloneArray C.1 C.2.2.2.1 (av_wd C hlk rfl) (av_wd C hsm rfl) (av_wd C hna rfl) (av_wd C hin rfl) (av_wd C hse rfl) (a := s0.heap.size + o) (cell := arrV (TY 20) (h.2.2.1 o).2 (fun j => .int (Int32.ofInt (h.2.2.2.1 o j)))) hcellT (fun k h => by cases h) (fun h => by cases h) hnm f2 f3
    (fun i v hv => by
      have hk' : T.vm.classes[TY 20]? = some kA := hkA
      have hft : fits .int v = true := va_fit (fun i _ => rfl) i v hv
      simpa [State.fitsSlot, State.slotType?, arrV, hk', hkind, av_ft] using hft)
    (g := F0 m pc ls (.ref (s0.heap.size + o) :: r.map (av_ev s0.heap.size kr))) rfl (hL.1.trans C.2.2.1.symm) rfl (by rw [C.2.1]; exact hd) hfr (by show 2 * 0 + _ + 14 ≤ _; rw [av_cats]; omega) hroom.1 (by rw [arrV_size]; exact hroom.2) (hloader := Vm.clonesLoader_of_array hkS hkindS)
  have hcE : ({ cls := (arrV (TY 20) (h.2.2.1 o).2 (fun j => .int (Int32.ofInt (h.2.2.2.1 o j)))).cls, slots := (arrV (TY 20) (h.2.2.1 o).2 (fun j => .int (Int32.ofInt (h.2.2.2.1 o j)))).slots } : Cell) = arrV (TY 20) (h.2.2.1 o).2 (fun j => .int (Int32.ofInt (h.2.2.2.1 o j))) := rfl
  rw [hcE, arrV_size] at X'
  have hR' : av_R s0 D TY sc (av_newN 20 (h.2.2.1 o).2 (h.2.2.2.1 o) h) (H.push (arrV (TY 20) (h.2.2.1 o).2 (fun j => .int (Int32.ofInt (h.2.2.2.1 o j))))) := by
    refine av_R_new hR (Array.size_push _) (fun q hq => by rw [Array.getElem?_push, if_neg (Nat.ne_of_lt hq)]) rfl rfl (fun q hq => ⟨av_u1_ne hq, av_u1_ne hq, rfl, rfl, rfl⟩) ?_
    unfold av_at
    simp only [av_newN, av_u1_self]
    rw [if_neg (by omega), if_pos (by omega), ← hsz, Array.getElem?_push_size]
  have kk := k _ locs ls hR' hl hL (by simp only [av_newN]; omega) (by simp only [av_newN]; omega)
  have g1 : (av_newN 20 (h.2.2.1 o).2 (h.2.2.2.1 o) h).1 - h0.1 = h.1 - h0.1 + 1 := by simp only [av_newN]; omega
  have g2 : (av_newN 20 (h.2.2.1 o).2 (h.2.2.2.1 o) h).2.1 - h0.2.1 = h.2.1 - h0.2.1 + (h.2.2.1 o).2 := by simp only [av_newN]; omega
  rw [g1, g2] at kk
  obtain ⟨t, b1, b2⟩ := kk ((T.setVm vm').pushCell (arrV (TY 20) (h.2.2.1 o).2 (fun j => .int (Int32.ofInt (h.2.2.2.1 o j))))) (by rw [← hT]; rfl) X'
  refine ⟨t, st' t ?_, b2⟩
  rw [hcE, hT, hsz]
  exact b1
end AVB
end
section
/-! CALLS: what a call needs of the tables, out of the start's words; the literals' members -/
section AVC
variable {p : Program} {l : Launch} {e : Env} {R : Room} {s : State} {m : MethodId} {args : Array Value} {below : List Frame} {meth : Method} {c : Code} {Q : State → Prop}
variable {a0 : Array Value} {s0 : State} {H : Heap} {locs : List Loc} {cells slots : Nat}
theorem av_go {w : Cond} (hZ : ∀ w ∈ lw_tbl, w.before a0 s0 = true) (hW : s0.WarmedH s.vm) (hw : w ∈ lw_tbl) (hg : (w.onTables && w.keeps) = true) : w.before args s = true := word_at hW (Or.inl hg) (hZ w hw)
theorem av_CB {own : String} {idx maxL n mc ms : Nat} {y : MethodName} {bytes : ByteArray} {ret : Option FieldType} {rm : Room} (hZ : ∀ w ∈ lw_tbl, w.before a0 s0 = true) (hW : s0.WarmedH s.vm) (hrc : rm.cells = mc) (hrs : rm.slots = ms) (hfr : rm.frames + 1 ≤ R.frames) (hlo : 8 + (maxL + 11) + rm.locals ≤ R.locals)
    (hco : Cond.code y bytes maxL ret ∈ lw_tbl) (hini : Cond.initialized y.cls ∈ lw_tbl) (hlk : Cond.methodLink own idx y ∈ lw_tbl) (hy : y.cls ≠ "java/lang/invoke/MethodHandle" ∧ y.cls ≠ "java/lang/invoke/VarHandle") (hn : (parseMethodDescriptor y.desc).map (fun d => d.parameters.length) = some n) :
    CallB R s args own idx y bytes maxL ret [Cond.code y bytes maxL ret] rm mc ms n := by
  refine ⟨hrc, hrs, hfr, hlo, fun w hw a' U hU => ?_, List.mem_cons_self, av_go hZ hW hco rfl, av_go hZ hW hini rfl, hy, fun sig h => ?_, av_go hZ hW hlk rfl⟩
  · rw [List.mem_singleton.mp hw]
    exact av_go hZ (State.WarmedH.trans hW hU) hco rfl
  · rw [h] at hn
    exact (Option.some.inj hn).symm
theorem av_CN {own host : String} {idx maxL n mc ms : Nat} {y : MethodName} {bytes : ByteArray} {ret : Option FieldType} {rm : Room} (hZ : ∀ w ∈ lw_tbl, w.before a0 s0 = true) (hW : s0.WarmedH s.vm) (hrc : rm.cells = mc) (hrs : rm.slots = ms) (hfr : rm.frames + 1 ≤ R.frames) (hlo : 8 + (maxL + 11) + rm.locals ≤ R.locals)
    (hco : Cond.code y bytes maxL ret ∈ lw_tbl) (hini : Cond.initialized y.cls ∈ lw_tbl) (hlk : Cond.methodLinkNest own idx y host ∈ lw_tbl) (hy : y.cls ≠ "java/lang/invoke/MethodHandle" ∧ y.cls ≠ "java/lang/invoke/VarHandle") (hn : (parseMethodDescriptor y.desc).map (fun d => d.parameters.length) = some n) :
    va_CN R s args own idx y host bytes maxL ret [Cond.code y bytes maxL ret] rm mc ms n := by
  refine ⟨⟨hrc, hrs, hfr, hlo, fun w hw a' U hU => ?_, List.mem_cons_self⟩, av_go hZ hW hco rfl, av_go hZ hW hini rfl, hy, fun sig h => ?_, va_Nw.use rfl (va_Nw.warmM hW (va_Nw.of rfl (hZ _ hlk)))⟩
  · rw [List.mem_singleton.mp hw]
    exact av_go hZ (State.WarmedH.trans hW hU) hco rfl
  · rw [h] at hn
    exact (Option.some.inj hn).symm
/-- a call that changes no cell -/
theorem av_callN {g : JFrame} {rest : List Value} {Qa : State → Outcome → State → Prop} {free : Addr → Prop} (v : Option Value) (hr : va_Run p l e R s m args below meth c H locs cells slots 0 0 g rest Qa free) (hq : ∀ (st : State) (o : Outcome) (t : State), Qa st o t → o = .returned v ∧ t.heap = st.heap) (hf : ∀ q, ¬ free q)
    (kk : W p l e R s m args below meth c H locs cells slots Q { g with pc := g.pc + 3, stack := v.toList ++ rest }) : W p l e R s m args below meth c H locs cells slots Q g := by
  intro T hT X
  obtain ⟨v', st₀, t, T', L, e0, X', hL, e1, e2, hqa, st⟩ := hr T hT X
  obtain ⟨hv, hh⟩ := hq _ _ _ hqa
  cases hv
  have hLn : L = [] := by
    cases L with
    | nil => rfl
    | cons x xs => exact absurd (hL x List.mem_cons_self) (hf _)
  subst hLn
  rw [List.append_nil] at X'
  obtain ⟨t2, a1, b1⟩ := kk T' (by rw [e1, hh, e0]) X'
  exact ⟨t2, st t2 a1, b1⟩
/-- nothing of the start's own cells has changed -/
def av_O (s0 U : State) : Prop := s0.WarmedH U.vm ∧ ∀ q : Nat, q < s0.heap.size → U.heap[q]? = s0.heap[q]?
def av_rm (f n : Nat) : Room := { frames := f, cells := 0, slots := 0, locals := n }
theorem av_blind {P : Array Value → Prop} : FrameBlind (fun a U => P a ∧ av_O s0 U) := fun _ _ _ _ h => h
end AVC
end
section
/-! THE LITERALS: length() and charAt(int) of a String that the class file holds -/
def av_Str (s0 : State) (kr ad : Nat → Nat) : Prop :=
  (∀ k : Nat, k < 20 → va_O "java/lang/String" (kr k) (fun q => s0.heap.size ≤ q) s0 s0.heap ∧ va_OF "java/lang/String" "coder" "B" (.int 0) (kr k) (fun q => s0.heap.size ≤ q) s0 s0.heap ∧ va_OF "java/lang/String" "value" "[B" (.ref (ad k)) (kr k) (fun q => s0.heap.size ≤ q) s0 s0.heap ∧ va_T .byte (ad k) (av_lit k).length (fun j => .int (Int32.ofInt ((av_lit k).getD j 0))) (fun q => s0.heap.size ≤ q) s0 s0.heap) ∧
  va_Z "java/lang/String" "COMPACT_STRINGS" "Z" (.int 1) (fun q => s0.heap.size ≤ q) s0 s0.heap ∧ va_Zq "jdk/internal/util/Preconditions" "SIOOBE_FORMATTER" "Ljava/util/function/BiFunction;" (fun q => s0.heap.size ≤ q) s0 s0.heap
theorem av_ascii : ∀ k, k < 20 → ((av_lit k).length < 2 ^ 31 ∧ ∀ j, j < (av_lit k).length → Int32.ofInt ((av_lit k).getD j 0) &&& 255 = Int32.ofInt ((av_lit k).getD j 0)) := by decide +kernel
abbrev sm_c_pre : ByteArray := prog_19_method_11_code
abbrev sm_y_pre : MethodName := ⟨"jdk/internal/util/Preconditions", "checkIndex", "(IILjava/util/function/BiFunction;)I"⟩
abbrev sm_w_pre : List Cond := [Cond.code sm_y_pre sm_c_pre 3 (some .int)]
abbrev sm_c_ck : ByteArray := prog_14_method_155_code
abbrev sm_y_ck : MethodName := ⟨"java/lang/String", "checkIndex", "(II)V"⟩
abbrev sm_w_ck : List Cond := [Cond.code sm_y_ck sm_c_ck 2 none]
abbrev sm_c_l1 : ByteArray := prog_15_method_2_code
abbrev sm_y_l1 : MethodName := ⟨"java/lang/StringLatin1", "charAt", "([BI)C"⟩
abbrev sm_w_l1 : List Cond := [Cond.code sm_y_l1 sm_c_l1 2 (some .char)]
abbrev sm_c_lat : ByteArray := prog_14_method_154_code
abbrev sm_y_lat : MethodName := ⟨"java/lang/String", "isLatin1", "()Z"⟩
abbrev sm_w_lat : List Cond := [Cond.code sm_y_lat sm_c_lat 1 (some .boolean)]
abbrev sm_c_cod : ByteArray := prog_14_method_152_code
abbrev sm_y_cod : MethodName := ⟨"java/lang/String", "coder", "()B"⟩
abbrev sm_w_cod : List Cond := [Cond.code sm_y_cod sm_c_cod 1 (some .byte)]
abbrev sm_c_len : ByteArray := prog_14_method_54_code
abbrev sm_y_len : MethodName := ⟨"java/lang/String", "length", "()I"⟩
abbrev sm_w_len : List Cond := [Cond.code sm_y_len sm_c_len 1 (some .int)]
abbrev sm_c_chr : ByteArray := prog_14_method_56_code
abbrev sm_y_chr : MethodName := ⟨"java/lang/String", "charAt", "(I)C"⟩
abbrev sm_w_chr : List Cond := [Cond.code sm_y_chr sm_c_chr 2 (some .char)]
theorem sm_d_pre_0 : decode sm_c_pre 0 = .ok (.iload_n 0, 1) := by decide +kernel
theorem sm_d_pre_1 : decode sm_c_pre 1 = .ok (.ifCond .lt 8, 3) := by decide +kernel
theorem sm_d_pre_4 : decode sm_c_pre 4 = .ok (.iload_n 0, 1) := by decide +kernel
theorem sm_d_pre_5 : decode sm_c_pre 5 = .ok (.iload_n 1, 1) := by decide +kernel
theorem sm_d_pre_6 : decode sm_c_pre 6 = .ok (.if_icmp .lt 10, 3) := by decide +kernel
theorem sm_d_pre_9 : decode sm_c_pre 9 = .ok (.aload_n 2, 1) := by decide +kernel
theorem sm_d_pre_10 : decode sm_c_pre 10 = .ok (.iload_n 0, 1) := by decide +kernel
theorem sm_d_pre_11 : decode sm_c_pre 11 = .ok (.iload_n 1, 1) := by decide +kernel
theorem sm_d_pre_12 : decode sm_c_pre 12 = .ok (.invokestatic 95, 3) := by decide +kernel
theorem sm_d_pre_15 : decode sm_c_pre 15 = .ok (.athrow, 1) := by decide +kernel
theorem sm_d_pre_16 : decode sm_c_pre 16 = .ok (.iload_n 0, 1) := by decide +kernel
theorem sm_d_pre_17 : decode sm_c_pre 17 = .ok (.ireturn, 1) := by decide +kernel
theorem sm_d_ck_0 : decode sm_c_ck 0 = .ok (.iload_n 0, 1) := by decide +kernel
theorem sm_d_ck_1 : decode sm_c_ck 1 = .ok (.iload_n 1, 1) := by decide +kernel
theorem sm_d_ck_2 : decode sm_c_ck 2 = .ok (.getstatic 1053, 3) := by decide +kernel
theorem sm_d_ck_5 : decode sm_c_ck 5 = .ok (.invokestatic 1059, 3) := by decide +kernel
theorem sm_d_ck_8 : decode sm_c_ck 8 = .ok (.pop, 1) := by decide +kernel
theorem sm_d_ck_9 : decode sm_c_ck 9 = .ok (.return_, 1) := by decide +kernel
theorem sm_d_l1_0 : decode sm_c_l1 0 = .ok (.iload_n 1, 1) := by decide +kernel
theorem sm_d_l1_1 : decode sm_c_l1 1 = .ok (.aload_n 0, 1) := by decide +kernel
theorem sm_d_l1_2 : decode sm_c_l1 2 = .ok (.arraylength, 1) := by decide +kernel
theorem sm_d_l1_3 : decode sm_c_l1 3 = .ok (.invokestatic 9, 3) := by decide +kernel
theorem sm_d_l1_6 : decode sm_c_l1 6 = .ok (.aload_n 0, 1) := by decide +kernel
theorem sm_d_l1_7 : decode sm_c_l1 7 = .ok (.iload_n 1, 1) := by decide +kernel
theorem sm_d_l1_8 : decode sm_c_l1 8 = .ok (.baload, 1) := by decide +kernel
theorem sm_d_l1_9 : decode sm_c_l1 9 = .ok (.sipush 255, 3) := by decide +kernel
theorem sm_d_l1_12 : decode sm_c_l1 12 = .ok (.iand, 1) := by decide +kernel
theorem sm_d_l1_13 : decode sm_c_l1 13 = .ok (.i2c, 1) := by decide +kernel
theorem sm_d_l1_14 : decode sm_c_l1 14 = .ok (.ireturn, 1) := by decide +kernel
theorem sm_d_lat_0 : decode sm_c_lat 0 = .ok (.getstatic 38, 3) := by decide +kernel
theorem sm_d_lat_3 : decode sm_c_lat 3 = .ok (.ifCond .eq 14, 3) := by decide +kernel
theorem sm_d_lat_6 : decode sm_c_lat 6 = .ok (.aload_n 0, 1) := by decide +kernel
theorem sm_d_lat_7 : decode sm_c_lat 7 = .ok (.getfield 15, 3) := by decide +kernel
theorem sm_d_lat_10 : decode sm_c_lat 10 = .ok (.ifCond .ne 7, 3) := by decide +kernel
theorem sm_d_lat_13 : decode sm_c_lat 13 = .ok (.iconst 1, 1) := by decide +kernel
theorem sm_d_lat_14 : decode sm_c_lat 14 = .ok (.goto 4, 3) := by decide +kernel
theorem sm_d_lat_17 : decode sm_c_lat 17 = .ok (.iconst 0, 1) := by decide +kernel
theorem sm_d_lat_18 : decode sm_c_lat 18 = .ok (.ireturn, 1) := by decide +kernel
theorem sm_d_cod_0 : decode sm_c_cod 0 = .ok (.getstatic 38, 3) := by decide +kernel
theorem sm_d_cod_3 : decode sm_c_cod 3 = .ok (.ifCond .eq 10, 3) := by decide +kernel
theorem sm_d_cod_6 : decode sm_c_cod 6 = .ok (.aload_n 0, 1) := by decide +kernel
theorem sm_d_cod_7 : decode sm_c_cod 7 = .ok (.getfield 15, 3) := by decide +kernel
theorem sm_d_cod_10 : decode sm_c_cod 10 = .ok (.goto 4, 3) := by decide +kernel
theorem sm_d_cod_13 : decode sm_c_cod 13 = .ok (.iconst 1, 1) := by decide +kernel
theorem sm_d_cod_14 : decode sm_c_cod 14 = .ok (.ireturn, 1) := by decide +kernel
theorem sm_d_len_0 : decode sm_c_len 0 = .ok (.aload_n 0, 1) := by decide +kernel
theorem sm_d_len_1 : decode sm_c_len 1 = .ok (.getfield 9, 3) := by decide +kernel
theorem sm_d_len_4 : decode sm_c_len 4 = .ok (.arraylength, 1) := by decide +kernel
theorem sm_d_len_5 : decode sm_c_len 5 = .ok (.aload_n 0, 1) := by decide +kernel
theorem sm_d_len_6 : decode sm_c_len 6 = .ok (.invokevirtual 335, 3) := by decide +kernel
theorem sm_d_len_9 : decode sm_c_len 9 = .ok (.ishr, 1) := by decide +kernel
theorem sm_d_len_10 : decode sm_c_len 10 = .ok (.ireturn, 1) := by decide +kernel
theorem sm_d_chr_0 : decode sm_c_chr 0 = .ok (.aload_n 0, 1) := by decide +kernel
theorem sm_d_chr_1 : decode sm_c_chr 1 = .ok (.invokevirtual 492, 3) := by decide +kernel
theorem sm_d_chr_4 : decode sm_c_chr 4 = .ok (.ifCond .eq 12, 3) := by decide +kernel
theorem sm_d_chr_7 : decode sm_c_chr 7 = .ok (.aload_n 0, 1) := by decide +kernel
theorem sm_d_chr_8 : decode sm_c_chr 8 = .ok (.getfield 9, 3) := by decide +kernel
theorem sm_d_chr_11 : decode sm_c_chr 11 = .ok (.iload_n 1, 1) := by decide +kernel
theorem sm_d_chr_12 : decode sm_c_chr 12 = .ok (.invokestatic 495, 3) := by decide +kernel
theorem sm_d_chr_15 : decode sm_c_chr 15 = .ok (.ireturn, 1) := by decide +kernel
theorem sm_d_chr_16 : decode sm_c_chr 16 = .ok (.aload_n 0, 1) := by decide +kernel
theorem sm_d_chr_17 : decode sm_c_chr 17 = .ok (.getfield 9, 3) := by decide +kernel
theorem sm_d_chr_20 : decode sm_c_chr 20 = .ok (.iload_n 1, 1) := by decide +kernel
theorem sm_d_chr_21 : decode sm_c_chr 21 = .ok (.invokestatic 498, 3) := by decide +kernel
theorem sm_d_chr_24 : decode sm_c_chr 24 = .ok (.ireturn, 1) := by decide +kernel
set_option maxRecDepth 100000 in
set_option maxHeartbeats 4000000 in
theorem sm_pre (l : Launch) {a0 : Array Value} {s0 : State} {kr ad : Nat → Nat} (hZ : ∀ w ∈ lw_tbl, w.before a0 s0 = true) (hS : av_Str s0 kr ad) {i n : Int32} {r : Option Nat} (hin : vp_in i n.toNatClampNeg) (hnn : ¬ n < 0) : Met l sm_y_pre sm_w_pre (av_rm 0 0) (fun a U => a = ([.int i, .int n, va_rf r] : List Value).toArray ∧ av_O s0 U) (fun _ st o t => o = .returned (some (.int i)) ∧ t.heap = st.heap) 0 0 (fun _ => False) := by
  refine Met.ofW (cc := sm_c_pre) (maxL := 3) (ret := (some .int)) (by decide) rfl ?_
  intro p e s m args below meth c s₁ B hml hv
  obtain ⟨rfl, hO⟩ := hv
  have hx := B.exec
  have hb := B.bytes
  have hr := B.returns
  have hown : s.vm.findClass "jdk/internal/util/Preconditions" = some m.cls := findClass_of_methodNamed B.named
  have hlocks := B.notSynchronized
  have hW := hO.1
  have hkp : ∀ a : Nat, a < s0.heap.size → ¬ (fun q => s0.heap.size ≤ q) a → s.heap[a]? = s0.heap[a]? := fun a ha _ => hO.2 a ha
  have hl := lv_entry ([.int i, .int n, va_rf r]) (n := 3) (by cases r <;> exact Nat.le_of_ble_eq_true rfl)
  rw [lg_entry_eq]
  generalize (lg_sl ([.int i, .int n, va_rf r]) ++ List.replicate (3 - (lg_sl ([.int i, .int n, va_rf r])).length) Slot.unset).toArray = ls at hl ⊢
  have h1 : ls[0]? = some (.val (.int i)) := hl.2.2 (0, .int i) (by simp [lv_args, Value.category])
  have h2 : ls[1]? = some (.val (.int n)) := hl.2.2 (1, .int n) (by simp [lv_args, Value.category])
  refine lv_iload_n hx hb sm_d_pre_0 rfl h1 ?_
  refine lv_if_lt (tgt := 9) hx hb sm_d_pre_1 (by decide) (fun q => absurd (Or.inl q) hin) (fun _ => ?_)
  refine lv_iload_n hx hb sm_d_pre_4 rfl h1 ?_
  refine lv_iload_n hx hb sm_d_pre_5 rfl h2 ?_
  refine lv_icmp_lt (tgt := 16) hx hb sm_d_pre_6 (by decide) (fun _ => ?_) (fun q => ?_)
  · refine lv_iload_n hx hb sm_d_pre_16 rfl h1 ?_
    exact W.iret hx hb hr (fun t ht _ => ⟨rfl, ht⟩) (fun q h => by cases h) sm_d_pre_17
  · exfalso
    apply q
    have e1 := vp_in_iff.mp hin
    rw [Int32.lt_iff_toInt_lt]
    have e2 : ((n.toNatClampNeg : Nat) : Int) = n.toInt := by
      have := Int32.not_lt.mp hnn
      rw [Int32.le_iff_toInt_le] at this
      show ((n.toInt.toNat : Nat) : Int) = n.toInt
      have h0 : (0 : Int32).toInt = 0 := rfl
      omega
    omega
set_option maxRecDepth 100000 in
set_option maxHeartbeats 4000000 in
theorem sm_ck (l : Launch) {a0 : Array Value} {s0 : State} {kr ad : Nat → Nat} (hZ : ∀ w ∈ lw_tbl, w.before a0 s0 = true) (hS : av_Str s0 kr ad) {i n : Int32} (hin : vp_in i n.toNatClampNeg) (hnn : ¬ n < 0) : Met l sm_y_ck sm_w_ck (av_rm 1 30) (fun a U => a = ([.int i, .int n] : List Value).toArray ∧ av_O s0 U) (fun _ st o t => o = .returned none ∧ t.heap = st.heap) 0 0 (fun _ => False) := by
  refine Met.ofW (cc := sm_c_ck) (maxL := 2) (ret := none) (by decide) rfl ?_
  intro p e s m args below meth c s₁ B hml hv
  obtain ⟨rfl, hO⟩ := hv
  have hx := B.exec
  have hb := B.bytes
  have hr := B.returns
  have hown : s.vm.findClass "java/lang/String" = some m.cls := findClass_of_methodNamed B.named
  have hlocks := B.notSynchronized
  have hW := hO.1
  have hkp : ∀ a : Nat, a < s0.heap.size → ¬ (fun q => s0.heap.size ≤ q) a → s.heap[a]? = s0.heap[a]? := fun a ha _ => hO.2 a ha
  have hl := lv_entry ([.int i, .int n]) (n := 2) (Nat.le_of_ble_eq_true rfl)
  rw [lg_entry_eq]
  generalize (lg_sl ([.int i, .int n]) ++ List.replicate (2 - (lg_sl ([.int i, .int n])).length) Slot.unset).toArray = ls at hl ⊢
  have h1 : ls[0]? = some (.val (.int i)) := hl.2.2 (0, .int i) (by simp [lv_args, Value.category])
  have h2 : ls[1]? = some (.val (.int n)) := hl.2.2 (1, .int n) (by simp [lv_args, Value.category])
  refine lv_iload_n hx hb sm_d_ck_0 rfl h1 ?_
  refine lv_iload_n hx hb sm_d_ck_1 rfl h2 ?_
  have go : ∀ r : Option Nat, va_Z "jdk/internal/util/Preconditions" "SIOOBE_FORMATTER" "Ljava/util/function/BiFunction;" (va_rf r) (fun q => s0.heap.size ≤ q) s s.heap → W p l e (headSpec sm_w_ck (av_rm 1 30)).room s m ([.int i, .int n] : List Value).toArray below meth c s.heap [] 0 0 (MQ below (fun _ st o t => o = .returned none ∧ t.heap = st.heap) ([.int i, .int n] : List Value).toArray s 0 0 (fun _ => False)) (F0 m 2 ls [.int n, .int i]) := by
    intro r hz
    refine va_gets hx hb hz va_S.rf hown (av_go hZ hW (av_mem (i := 398) rfl) rfl) (fun x hx => hx) sm_d_ck_2 ?_
    refine av_callN (some (.int i)) (va_runS (As := [.int i, .int n, va_rf r]) (rest := []) (Ts := []) ⟨hx, hb, hml, hown, fun w hw => by cases hw⟩ (sm_pre l hZ hS hin hnn) ⟨av_CB (n := 3) hZ hW rfl rfl (by decide) (by decide) (av_mem (i := 402) rfl) (av_mem (i := 15) rfl) (av_mem (i := 400) rfl) (by decide) (by decide +kernel), av_go hZ hW (av_mem (i := 401) rfl) rfl⟩ ⟨av_blind, fun U hU hWU => ⟨rfl, State.WarmedH.trans hW hWU, fun q hq => by rw [hU]; exact hO.2 q hq⟩⟩ rfl rfl hl.1 rfl (lv_room (by simp)) sm_d_ck_5 ⟨Nat.le_refl _, Nat.le_refl _⟩) (fun st o t hq => hq) (fun q h => h) ?_
    refine lv_pop hx hb sm_d_ck_8 rfl ?_
    exact W.vret hx hb hr (fun t ht _ => ⟨rfl, ht⟩) (fun q h => by cases h) sm_d_ck_9
  rcases (hS.2.2.moved hW.alike).kept hkp with hz | ⟨t, hz⟩
  · exact go none hz
  · exact go (some t) hz
set_option maxRecDepth 100000 in
set_option maxHeartbeats 4000000 in
theorem sm_l1 (l : Launch) {a0 : Array Value} {s0 : State} {kr ad : Nat → Nat} (hZ : ∀ w ∈ lw_tbl, w.before a0 s0 = true) (hS : av_Str s0 kr ad) {i : Int32} {k : Nat} (hk : k < 20) (hin : vp_in i (av_lit k).length) : Met l sm_y_l1 sm_w_l1 (av_rm 2 60) (fun a U => a = ([.ref (ad k), .int i] : List Value).toArray ∧ av_O s0 U) (fun _ st o t => o = .returned (some (.int (Int32.ofInt ((av_lit k).getD i.toNatClampNeg 0)))) ∧ t.heap = st.heap) 0 0 (fun _ => False) := by
  refine Met.ofW (cc := sm_c_l1) (maxL := 2) (ret := (some .char)) (by decide) rfl ?_
  intro p e s m args below meth c s₁ B hml hv
  obtain ⟨rfl, hO⟩ := hv
  have hx := B.exec
  have hb := B.bytes
  have hr := B.returns
  have hown : s.vm.findClass "java/lang/StringLatin1" = some m.cls := findClass_of_methodNamed B.named
  have hlocks := B.notSynchronized
  have hW := hO.1
  have hkp : ∀ a : Nat, a < s0.heap.size → ¬ (fun q => s0.heap.size ≤ q) a → s.heap[a]? = s0.heap[a]? := fun a ha _ => hO.2 a ha
  have hl := lv_entry ([.ref (ad k), .int i]) (n := 2) (Nat.le_of_ble_eq_true rfl)
  rw [lg_entry_eq]
  generalize (lg_sl ([.ref (ad k), .int i]) ++ List.replicate (2 - (lg_sl ([.ref (ad k), .int i])).length) Slot.unset).toArray = ls at hl ⊢
  have h1 : ls[0]? = some (.val (.ref (ad k))) := hl.2.2 (0, .ref (ad k)) (by simp [lv_args, Value.category])
  have h2 : ls[1]? = some (.val (.int i)) := hl.2.2 (1, .int i) (by simp [lv_args, Value.category])
  have hT := ((hS.1 k hk).2.2.2.moved hW.alike).kept hkp
  obtain ⟨cell, g1, g2, g3, g4, g5, g6, g7⟩ := id hT
  obtain ⟨hlen, has⟩ := av_ascii k hk
  have hlt : i.toNatClampNeg < (av_lit k).length := Nat.not_le.mp fun q => hin (Or.inr q)
  have hcl : (nI (av_lit k).length).toNatClampNeg = (av_lit k).length := nI_clamp hlen
  refine lv_iload_n hx hb sm_d_l1_0 rfl h2 ?_
  refine lv_aload_n hx hb sm_d_l1_1 rfl h1 ?_
  refine W.alen hx hb g1 g2 g5 rfl rfl sm_d_l1_2 ?_
  refine av_callN none (va_runS (As := [.int i, .int (nI (av_lit k).length)]) (rest := []) (Ts := []) ⟨hx, hb, hml, hown, fun w hw => by cases hw⟩ (sm_ck l hZ hS (by rw [hcl]; exact hin) (nI_pos hlen)) ⟨av_CB (n := 2) hZ hW rfl rfl (by decide) (by decide) (av_mem (i := 397) rfl) (av_mem (i := 13) rfl) (av_mem (i := 395) rfl) (by decide) (by decide +kernel), av_go hZ hW (av_mem (i := 396) rfl) rfl⟩ ⟨av_blind, fun U hU hWU => ⟨rfl, State.WarmedH.trans hW hWU, fun q hq => by rw [hU]; exact hO.2 q hq⟩⟩ rfl rfl hl.1 rfl (lv_room (by simp)) sm_d_l1_3 ⟨Nat.le_refl _, Nat.le_refl _⟩) (fun st o t hq => hq) (fun q h => h) ?_
  refine lv_aload_n hx hb sm_d_l1_6 rfl h1 ?_
  refine lv_iload_n hx hb sm_d_l1_7 rfl h2 ?_
  refine va_tb hx hb hT va_S.rf hin rfl sm_d_l1_8 ?_
  refine lv_sipush (v := 255) hx hb sm_d_l1_9 (by decide) ?_
  refine lv_iand hx hb sm_d_l1_12 ?_
  refine lv_i2c hx hb sm_d_l1_13 (sc_c2 _) ?_
  have e1 := has _ hlt
  rw [e1]
  exact W.zret hx hb hr (by rw [← e1]; exact sc_nar _) (fun t ht _ => ⟨rfl, ht⟩) (fun q h => by cases h) sm_d_l1_14
set_option maxRecDepth 100000 in
set_option maxHeartbeats 4000000 in
theorem sm_lat (l : Launch) {a0 : Array Value} {s0 : State} {kr ad : Nat → Nat} (hZ : ∀ w ∈ lw_tbl, w.before a0 s0 = true) (hS : av_Str s0 kr ad) {k : Nat} (hk : k < 20) : Met l sm_y_lat sm_w_lat (av_rm 0 0) (fun a U => a = ([.ref (kr k)] : List Value).toArray ∧ av_O s0 U) (fun _ st o t => o = .returned (some (.int 1)) ∧ t.heap = st.heap) 0 0 (fun _ => False) := by
  refine Met.ofW (cc := sm_c_lat) (maxL := 1) (ret := (some .boolean)) (by decide) rfl ?_
  intro p e s m args below meth c s₁ B hml hv
  obtain ⟨rfl, hO⟩ := hv
  have hx := B.exec
  have hb := B.bytes
  have hr := B.returns
  have hown : s.vm.findClass "java/lang/String" = some m.cls := findClass_of_methodNamed B.named
  have hlocks := B.notSynchronized
  have hW := hO.1
  have hkp : ∀ a : Nat, a < s0.heap.size → ¬ (fun q => s0.heap.size ≤ q) a → s.heap[a]? = s0.heap[a]? := fun a ha _ => hO.2 a ha
  have hl := lv_entry ([.ref (kr k)]) (n := 1) (Nat.le_of_ble_eq_true rfl)
  rw [lg_entry_eq]
  generalize (lg_sl ([.ref (kr k)]) ++ List.replicate (1 - (lg_sl ([.ref (kr k)])).length) Slot.unset).toArray = ls at hl ⊢
  have h1 : ls[0]? = some (.val (.ref (kr k))) := hl.2.2 (0, .ref (kr k)) (by simp [lv_args, Value.category])
  refine va_gets hx hb ((hS.2.1.moved hW.alike).kept hkp) va_S.rf hown (av_go hZ hW (av_mem (i := 382) rfl) rfl) (fun x hx => hx) sm_d_lat_0 ?_
  refine lv_if_eq (tgt := 17) hx hb sm_d_lat_3 (by decide) (fun q => by cases q) (fun _ => ?_)
  refine lv_aload_n hx hb sm_d_lat_6 rfl h1 ?_
  refine vk_getf hx hb (((hS.1 k hk).2.1.moved hW.alike).kept hkp) va_S.rf hown (av_go hZ hW (av_mem (i := 1509) rfl) rfl) (fun x hx => hx) sm_d_lat_7 ?_
  refine lv_if_ne (tgt := 17) hx hb sm_d_lat_10 (by decide) (fun q => absurd rfl q) (fun _ => ?_)
  refine lv_iconst (v := 1) hx hb sm_d_lat_13 (by decide) ?_
  refine lv_goto (tgt := 18) hx hb sm_d_lat_14 (by decide) ?_
  exact W.zret hx hb hr (by decide) (fun t ht _ => ⟨rfl, ht⟩) (fun q h => by cases h) sm_d_lat_18
set_option maxRecDepth 100000 in
set_option maxHeartbeats 4000000 in
theorem sm_cod (l : Launch) {a0 : Array Value} {s0 : State} {kr ad : Nat → Nat} (hZ : ∀ w ∈ lw_tbl, w.before a0 s0 = true) (hS : av_Str s0 kr ad) {k : Nat} (hk : k < 20) : Met l sm_y_cod sm_w_cod (av_rm 0 0) (fun a U => a = ([.ref (kr k)] : List Value).toArray ∧ av_O s0 U) (fun _ st o t => o = .returned (some (.int 0)) ∧ t.heap = st.heap) 0 0 (fun _ => False) := by
  refine Met.ofW (cc := sm_c_cod) (maxL := 1) (ret := (some .byte)) (by decide) rfl ?_
  intro p e s m args below meth c s₁ B hml hv
  obtain ⟨rfl, hO⟩ := hv
  have hx := B.exec
  have hb := B.bytes
  have hr := B.returns
  have hown : s.vm.findClass "java/lang/String" = some m.cls := findClass_of_methodNamed B.named
  have hlocks := B.notSynchronized
  have hW := hO.1
  have hkp : ∀ a : Nat, a < s0.heap.size → ¬ (fun q => s0.heap.size ≤ q) a → s.heap[a]? = s0.heap[a]? := fun a ha _ => hO.2 a ha
  have hl := lv_entry ([.ref (kr k)]) (n := 1) (Nat.le_of_ble_eq_true rfl)
  rw [lg_entry_eq]
  generalize (lg_sl ([.ref (kr k)]) ++ List.replicate (1 - (lg_sl ([.ref (kr k)])).length) Slot.unset).toArray = ls at hl ⊢
  have h1 : ls[0]? = some (.val (.ref (kr k))) := hl.2.2 (0, .ref (kr k)) (by simp [lv_args, Value.category])
  refine va_gets hx hb ((hS.2.1.moved hW.alike).kept hkp) va_S.rf hown (av_go hZ hW (av_mem (i := 382) rfl) rfl) (fun x hx => hx) sm_d_cod_0 ?_
  refine lv_if_eq (tgt := 13) hx hb sm_d_cod_3 (by decide) (fun q => by cases q) (fun _ => ?_)
  refine lv_aload_n hx hb sm_d_cod_6 rfl h1 ?_
  refine vk_getf hx hb (((hS.1 k hk).2.1.moved hW.alike).kept hkp) va_S.rf hown (av_go hZ hW (av_mem (i := 1509) rfl) rfl) (fun x hx => hx) sm_d_cod_7 ?_
  refine lv_goto (tgt := 14) hx hb sm_d_cod_10 (by decide) ?_
  exact W.zret hx hb hr (by decide) (fun t ht _ => ⟨rfl, ht⟩) (fun q h => by cases h) sm_d_cod_14
set_option maxRecDepth 100000 in
set_option maxHeartbeats 4000000 in
theorem sm_len (l : Launch) {a0 : Array Value} {s0 : State} {kr ad : Nat → Nat} (hZ : ∀ w ∈ lw_tbl, w.before a0 s0 = true) (hS : av_Str s0 kr ad) {k : Nat} (hk : k < 20) : Met l sm_y_len sm_w_len (av_rm 1 30) (fun a U => a = ([.ref (kr k)] : List Value).toArray ∧ av_O s0 U) (fun _ st o t => o = .returned (some (.int (nI (av_lit k).length))) ∧ t.heap = st.heap) 0 0 (fun _ => False) := by
  refine Met.ofW (cc := sm_c_len) (maxL := 1) (ret := (some .int)) (by decide) rfl ?_
  intro p e s m args below meth c s₁ B hml hv
  obtain ⟨rfl, hO⟩ := hv
  have hx := B.exec
  have hb := B.bytes
  have hr := B.returns
  have hown : s.vm.findClass "java/lang/String" = some m.cls := findClass_of_methodNamed B.named
  have hlocks := B.notSynchronized
  have hW := hO.1
  have hkp : ∀ a : Nat, a < s0.heap.size → ¬ (fun q => s0.heap.size ≤ q) a → s.heap[a]? = s0.heap[a]? := fun a ha _ => hO.2 a ha
  have hl := lv_entry ([.ref (kr k)]) (n := 1) (Nat.le_of_ble_eq_true rfl)
  rw [lg_entry_eq]
  generalize (lg_sl ([.ref (kr k)]) ++ List.replicate (1 - (lg_sl ([.ref (kr k)])).length) Slot.unset).toArray = ls at hl ⊢
  have h1 : ls[0]? = some (.val (.ref (kr k))) := hl.2.2 (0, .ref (kr k)) (by simp [lv_args, Value.category])
  have hrc : ∃ cell : Cell, s.heap[kr k]? = some cell ∧ cell.vm.isStatics = false ∧ s.vm.findClass "java/lang/String" = some cell.cls := by
    obtain ⟨cell, r1, r2, r3, -⟩ := ((hS.1 k hk).1.moved hW.alike).kept hkp
    exact ⟨cell, r1, r2, r3⟩
  obtain ⟨cellT, g1, g2, g3, g4, g5, g6, g7⟩ := ((hS.1 k hk).2.2.2.moved hW.alike).kept hkp
  refine lv_aload_n hx hb sm_d_len_0 rfl h1 ?_
  refine vk_getf hx hb (((hS.1 k hk).2.2.1.moved hW.alike).kept hkp) va_S.rf hown (av_go hZ hW (av_mem (i := 1508) rfl) rfl) (fun x hx => hx) sm_d_len_1 ?_
  refine W.alen hx hb g1 g2 g5 rfl rfl sm_d_len_4 ?_
  refine lv_aload_n hx hb sm_d_len_5 rfl h1 ?_
  refine av_callN (some (.int 0)) (va_runV (C := "java/lang/String") (As := []) (rest := [.int (Int32.ofNat (av_lit k).length)]) (Ts := []) ⟨hx, hb, hml, hown, fun w hw => by cases hw⟩ (sm_cod l hZ hS hk) ⟨av_CB (n := 0) hZ hW rfl rfl (by decide) (by decide) (av_mem (i := 381) rfl) (av_mem (i := 13) rfl) (av_mem (i := 378) rfl) (by decide) (by decide +kernel), av_go hZ hW (av_mem (i := 379) rfl) rfl, av_go hZ hW (av_mem (i := 380) rfl) rfl⟩ ⟨av_blind, hrc, fun U hU hWU => ⟨rfl, State.WarmedH.trans hW hWU, fun q hq => by rw [hU]; exact hO.2 q hq⟩⟩ rfl rfl hl.1 rfl (lv_room (by simp [Value.category])) sm_d_len_6 ⟨Nat.le_refl _, Nat.le_refl _⟩) (fun st o t hq => hq) (fun q h => h) ?_
  refine lv_ishr hx hb sm_d_len_9 ?_
  rw [sb_shr0]
  exact W.iret hx hb hr (fun t ht _ => ⟨rfl, ht⟩) (fun q h => by cases h) sm_d_len_10
set_option maxRecDepth 100000 in
set_option maxHeartbeats 4000000 in
theorem sm_chr (l : Launch) {a0 : Array Value} {s0 : State} {kr ad : Nat → Nat} (hZ : ∀ w ∈ lw_tbl, w.before a0 s0 = true) (hS : av_Str s0 kr ad) {i : Int32} {k : Nat} (hk : k < 20) (hin : vp_in i (av_lit k).length) : Met l sm_y_chr sm_w_chr (av_rm 3 90) (fun a U => a = ([.ref (kr k), .int i] : List Value).toArray ∧ av_O s0 U) (fun _ st o t => o = .returned (some (.int (Int32.ofInt ((av_lit k).getD i.toNatClampNeg 0)))) ∧ t.heap = st.heap) 0 0 (fun _ => False) := by
  refine Met.ofW (cc := sm_c_chr) (maxL := 2) (ret := (some .char)) (by decide) rfl ?_
  intro p e s m args below meth c s₁ B hml hv
  obtain ⟨rfl, hO⟩ := hv
  have hx := B.exec
  have hb := B.bytes
  have hr := B.returns
  have hown : s.vm.findClass "java/lang/String" = some m.cls := findClass_of_methodNamed B.named
  have hlocks := B.notSynchronized
  have hW := hO.1
  have hkp : ∀ a : Nat, a < s0.heap.size → ¬ (fun q => s0.heap.size ≤ q) a → s.heap[a]? = s0.heap[a]? := fun a ha _ => hO.2 a ha
  have hl := lv_entry ([.ref (kr k), .int i]) (n := 2) (Nat.le_of_ble_eq_true rfl)
  rw [lg_entry_eq]
  generalize (lg_sl ([.ref (kr k), .int i]) ++ List.replicate (2 - (lg_sl ([.ref (kr k), .int i])).length) Slot.unset).toArray = ls at hl ⊢
  have h1 : ls[0]? = some (.val (.ref (kr k))) := hl.2.2 (0, .ref (kr k)) (by simp [lv_args, Value.category])
  have h2 : ls[1]? = some (.val (.int i)) := hl.2.2 (1, .int i) (by simp [lv_args, Value.category])
  have hrc : ∃ cell : Cell, s.heap[kr k]? = some cell ∧ cell.vm.isStatics = false ∧ s.vm.findClass "java/lang/String" = some cell.cls := by
    obtain ⟨cell, r1, r2, r3, -⟩ := ((hS.1 k hk).1.moved hW.alike).kept hkp
    exact ⟨cell, r1, r2, r3⟩
  refine lv_aload_n hx hb sm_d_chr_0 rfl h1 ?_
  refine av_callN (some (.int 1)) (va_runV (C := "java/lang/String") (As := []) (rest := []) (Ts := []) ⟨hx, hb, hml, hown, fun w hw => by cases hw⟩ (sm_lat l hZ hS hk) ⟨av_CB (n := 0) hZ hW rfl rfl (by decide) (by decide) (av_mem (i := 391) rfl) (av_mem (i := 13) rfl) (av_mem (i := 388) rfl) (by decide) (by decide +kernel), av_go hZ hW (av_mem (i := 389) rfl) rfl, av_go hZ hW (av_mem (i := 390) rfl) rfl⟩ ⟨av_blind, hrc, fun U hU hWU => ⟨rfl, State.WarmedH.trans hW hWU, fun q hq => by rw [hU]; exact hO.2 q hq⟩⟩ rfl rfl hl.1 rfl (lv_room (by simp [Value.category])) sm_d_chr_1 ⟨Nat.le_refl _, Nat.le_refl _⟩) (fun st o t hq => hq) (fun q h => h) ?_
  refine lv_if_eq (tgt := 16) hx hb sm_d_chr_4 rfl (fun q => by cases q) (fun _ => ?_)
  refine lv_aload_n hx hb sm_d_chr_7 rfl h1 ?_
  refine vk_getf hx hb (((hS.1 k hk).2.2.1.moved hW.alike).kept hkp) va_S.rf hown (av_go hZ hW (av_mem (i := 1508) rfl) rfl) (fun x hx => hx) sm_d_chr_8 ?_
  refine lv_iload_n hx hb sm_d_chr_11 rfl h2 ?_
  refine av_callN (some (.int (Int32.ofInt ((av_lit k).getD i.toNatClampNeg 0)))) (va_runS (As := [.ref (ad k), .int i]) (rest := []) (Ts := []) ⟨hx, hb, hml, hown, fun w hw => by cases hw⟩ (sm_l1 l hZ hS hk hin) ⟨av_CB (n := 2) hZ hW rfl rfl (by decide) (by decide) (av_mem (i := 394) rfl) (av_mem (i := 14) rfl) (av_mem (i := 392) rfl) (by decide) (by decide +kernel), av_go hZ hW (av_mem (i := 393) rfl) rfl⟩ ⟨av_blind, fun U hU hWU => ⟨rfl, State.WarmedH.trans hW hWU, fun q hq => by rw [hU]; exact hO.2 q hq⟩⟩ rfl rfl hl.1 rfl (lv_room (by simp)) sm_d_chr_12 ⟨Nat.le_refl _, Nat.le_refl _⟩) (fun st o t hq => hq) (fun q h => h) ?_
  have hlt : i.toNatClampNeg < (av_lit k).length := Nat.not_le.mp fun q => hin (Or.inr q)
  have e1 := (av_ascii k hk).2 _ hlt
  exact W.zret hx hb hr (by rw [← e1]; exact sc_nar _) (fun t ht _ => ⟨rfl, ht⟩) (fun q h => by cases h) sm_d_chr_15
end
section
/-! ONE STEP: length() and charAt(int) of a literal -/
section AVL
variable {p : Program} {l : Launch} {e : Env} {R : Room} {s : State} {m : MethodId} {args : Array Value} {below : List Frame} {meth : Method} {c : Code} {Q : State → Prop}
variable {a0 : Array Value} {s0 : State} {D : va_G} {TY : Nat → ClassId} {kr ad : Nat → Nat} {sc : av_Sr} {own nL : Nat} {cc : ByteArray} {ini : Bool} {h0 hf h h' : av_H} {pc pc' : Nat} {lv lv' : av_L} {st st' : List av_V}

theorem av_s_len {idx q : Nat}  {r : List av_V} (C : av_Cx p R s m meth c a0 s0 D TY own nL cc ini h0 hf) (hS : av_Str s0 kr ad) (hd : decode cc pc = .ok (.invokevirtual idx, 3)) (hlk : Cond.methodLink (av_cn own) idx sm_y_len ∈ lw_tbl) (hin0 : Cond.instanceMethod sm_y_len ∈ lw_tbl) (hse : Cond.selects "java/lang/String" sm_y_len sm_y_len ∈ lw_tbl) (hco : Cond.code sm_y_len sm_c_len 1 (some .int) ∈ lw_tbl) (hini : Cond.initialized "java/lang/String" ∈ lw_tbl) (hr : (r.map av_cat).sum ≤ 8) (hq : q < 20)  (hfr : 2 ≤ R.frames) (hlo : 60 ≤ R.locals) (hle : h.1 ≤ hf.1 ∧ h.2.1 ≤ hf.2.1) (k : av_W p l e R s m args below meth c Q s0 D TY kr sc nL h0 (pc + 3) lv (.inl ((av_lit q).length : Int) :: r) h) : av_W p l e R s m args below meth c Q s0 D TY kr sc nL h0 pc lv (.inr (.inr (.inr q)) :: r) h := by
  intro H locs ls hR hl hL h1 h2
  have hZ := C.2.2.2.2.2.1.1
  have hW := C.2.2.2.2.1
  have hrm := C.2.2.2.2.2.2.2
  have hrc : ∃ cell : Cell, H[kr q]? = some cell ∧ cell.vm.isStatics = false ∧ s.vm.findClass "java/lang/String" = some cell.cls := by
    obtain ⟨cell, r1, r2, r3, -⟩ := ((hS.1 q hq).1.moved hW.alike).kept (av_old hR)
    exact ⟨cell, r1, r2, r3⟩
  refine av_callN (some (.int (nI (av_lit q).length))) (va_runV (C := "java/lang/String") (As := []) (rest := r.map (av_ev s0.heap.size kr)) (Ts := []) ⟨C.1, C.2.1, C.2.2.1, C.2.2.2.1, fun w hw => by cases hw⟩ (sm_len l hZ hS hq) ⟨av_CB (n := 0) hZ hW rfl rfl (by show _ + 1 ≤ _; simp only [av_rm]; omega) (by show 8 + _ + _ ≤ _; simp only [av_rm]; omega) hco hini hlk (by decide) (by decide +kernel), av_go hZ hW hin0 rfl, av_go hZ hW hse rfl⟩ ⟨av_blind, hrc, fun U hU hWU => ⟨rfl, State.WarmedH.trans hW hWU, fun x hx => by rw [hU]; exact hR.2.1 x hx⟩⟩ rfl rfl hL.1 rfl (lv_room (by rw [av_cats]; exact hr)) hd ⟨by show _ + 0 ≤ _; omega, by show _ + 0 ≤ _; omega⟩) (fun st o t hq => hq) (fun q h => h) ?_
  have kk := k H locs ls hR hl hL h1 h2
  exact kk
theorem av_s_chr {idx q : Nat} {i : Int} {r : List av_V} (C : av_Cx p R s m meth c a0 s0 D TY own nL cc ini h0 hf) (hS : av_Str s0 kr ad) (hd : decode cc pc = .ok (.invokevirtual idx, 3)) (hlk : Cond.methodLink (av_cn own) idx sm_y_chr ∈ lw_tbl) (hin0 : Cond.instanceMethod sm_y_chr ∈ lw_tbl) (hse : Cond.selects "java/lang/String" sm_y_chr sm_y_chr ∈ lw_tbl) (hco : Cond.code sm_y_chr sm_c_chr 2 (some .char) ∈ lw_tbl) (hini : Cond.initialized "java/lang/String" ∈ lw_tbl) (hr : (r.map av_cat).sum ≤ 8) (hq : q < 20) (hi : av_inB i (av_lit q).length = true) (hfr : 4 ≤ R.frames) (hlo : 120 ≤ R.locals) (hle : h.1 ≤ hf.1 ∧ h.2.1 ≤ hf.2.1) (k : av_W p l e R s m args below meth c Q s0 D TY kr sc nL h0 (pc + 3) lv (.inl ((av_lit q).getD (av_w i).toNat 0) :: r) h) : av_W p l e R s m args below meth c Q s0 D TY kr sc nL h0 pc lv (.inl i :: .inr (.inr (.inr q)) :: r) h := by
  intro H locs ls hR hl hL h1 h2
  have hZ := C.2.2.2.2.2.1.1
  have hW := C.2.2.2.2.1
  have hrm := C.2.2.2.2.2.2.2
  have hrc : ∃ cell : Cell, H[kr q]? = some cell ∧ cell.vm.isStatics = false ∧ s.vm.findClass "java/lang/String" = some cell.cls := by
    obtain ⟨cell, r1, r2, r3, -⟩ := ((hS.1 q hq).1.moved hW.alike).kept (av_old hR)
    exact ⟨cell, r1, r2, r3⟩
  have hin : vp_in (Int32.ofInt i) (av_lit q).length := (av_inP hi).1
  refine av_callN (some (.int (Int32.ofInt ((av_lit q).getD (Int32.ofInt i).toNatClampNeg 0)))) (va_runV (C := "java/lang/String") (As := [.int (Int32.ofInt i)]) (rest := r.map (av_ev s0.heap.size kr)) (Ts := []) ⟨C.1, C.2.1, C.2.2.1, C.2.2.2.1, fun w hw => by cases hw⟩ (sm_chr l hZ hS hq hin) ⟨av_CB (n := 1) hZ hW rfl rfl (by show _ + 1 ≤ _; simp only [av_rm]; omega) (by show 8 + _ + _ ≤ _; simp only [av_rm]; omega) hco hini hlk (by decide) (by decide +kernel), av_go hZ hW hin0 rfl, av_go hZ hW hse rfl⟩ ⟨av_blind, hrc, fun U hU hWU => ⟨rfl, State.WarmedH.trans hW hWU, fun x hx => by rw [hU]; exact hR.2.1 x hx⟩⟩ rfl rfl hL.1 rfl (lv_room (by rw [av_cats]; exact hr)) hd ⟨by show _ + 0 ≤ _; omega, by show _ + 0 ≤ _; omega⟩) (fun st o t hq => hq) (fun q h => h) ?_
  have kk := k H locs ls hR hl hL h1 h2
  rw [av_nat]
  exact kk
end AVL
end
section
/-! EVERY STEP -/
/-- the literals: at which place of which pool each stands -/
def av_strs : List (Nat × Nat × Nat × String) := [(2, 66, 0, "offer ask yes no back deed send"), (2, 72, 1, "a b c"), (2, 123, 2, "price much day port court"), (2, 116, 3, "hold"), (2, 121, 4, "given"), (2, 84, 5, "but"), (2, 125, 6, "post wire mouth deed"), (2, 127, 7, "at"), (2, 143, 8, "to"), (2, 137, 9, "after"), (2, 139, 10, "read"), (2, 141, 11, "lost"), (4, 41, 12, "yes offer back no hold lapse silence but form deed risk"), (4, 69, 13, "post wire mouth all"), (4, 50, 14, "sent come read"), (4, 52, 15, "free binds"), (4, 58, 16, "no small"), (4, 60, 17, "first last none"), (4, 62, 18, "none yes"), (4, 64, 19, "bargain sent come")]
def av_len (x : av_E) : Nat := match x.1 with
  | .tableswitch _ _ _ _ => x.2.1
  | .lookupswitch _ _ => x.2.1
  | .bipush _ => 2
  | .sipush _ => 3
  | .ldc _ => 2
  | .ldc_w _ => 3
  | .ldc2_w _ => 3
  | .iload _ => 2
  | .aload _ => 2
  | .lload _ => 2
  | .istore _ => 2
  | .astore _ => 2
  | .iinc _ _ => 3
  | .goto _ => 3
  | .ifCond _ _ => 3
  | .if_icmp _ _ => 3
  | .ifnull _ => 3
  | .ifnonnull _ => 3
  | .getfield _ => 3
  | .putfield _ => 3
  | .getstatic _ => 3
  | .newarray _ => 2
  | .anewarray _ => 3
  | .multianewarray _ _ => 4
  | .new _ => 3
  | .checkcast _ => 3
  | .invokevirtual _ => 3
  | .invokespecial _ => 3
  | .invokestatic _ => 3
  | _ => 1
def av_lkP (own a idx : Nat) : Prop := match a with
  | 1000 => Cond.methodLink (av_cn own) idx Lib.objectInit ∈ lw_tbl
  | 1001 => Cond.methodLink (av_cn own) idx Lib.Math.max.name ∈ lw_tbl
  | 1002 => Cond.methodLink (av_cn own) idx Lib.Math.min.name ∈ lw_tbl
  | 1003 => Cond.methodLink (av_cn own) idx arraycopyName ∈ lw_tbl
  | 1004 => Cond.methodLink (av_cn own) idx ⟨"[I", "clone", "()Ljava/lang/Object;"⟩ ∈ lw_tbl
  | 1005 => Cond.methodLink (av_cn own) idx sm_y_len ∈ lw_tbl
  | 1006 => Cond.methodLink (av_cn own) idx sm_y_chr ∈ lw_tbl
  | _ => False
/-- an entry of a method's code is what the bytes say, and its links are the tables' -/
def av_ok (own : Nat) (cc : ByteArray) (ini : Bool) (fr lo pc : Nat) (x : av_E) : Prop := decode cc pc = .ok (x.1, av_len x) ∧ (match x.1 with
  | .bipush n => (Int8.ofInt n).toInt32 = Int32.ofInt n
  | .sipush n => (Int16.ofInt n).toInt32 = Int32.ofInt n
  | .ldc idx => (x.2.2.1 = 0 ∧ Cond.constant (av_cn own) idx (Int32.ofInt x.2.2.2.2.2) ∈ lw_tbl) ∨ (¬ x.2.2.1 = 0 ∧ ∃ tx, (own, idx, x.2.2.2.1, tx) ∈ av_strs)
  | .ldc_w idx => Cond.constant (av_cn own) idx (Int32.ofInt x.2.2.2.2.2) ∈ lw_tbl
  | .ldc2_w idx => Cond.constantLong (av_cn own) idx (Int64.ofInt x.2.2.2.2.2) ∈ lw_tbl
  | .goto off => (pc : Int) + off = (x.2.2.1 : Int)
  | .ifCond _ off => (pc : Int) + off = (x.2.2.1 : Int)
  | .if_icmp _ off => (pc : Int) + off = (x.2.2.1 : Int)
  | .ifnull off => (pc : Int) + off = (x.2.2.1 : Int)
  | .ifnonnull off => (pc : Int) + off = (x.2.2.1 : Int)
  | .tableswitch d low high offs => 0 ≤ (pc : Int) + d ∧ (∀ q ∈ offs.toList, 0 ≤ (pc : Int) + q) ∧ high - low < offs.toList.length
  | .lookupswitch d ps => (ps.toList.zip (ps.toList.drop 1)).all (fun (a, next) => a.1 < next.1) = true ∧ 0 ≤ (pc : Int) + d ∧ ∀ q ∈ ps.toList, 0 ≤ (pc : Int) + q.2
  | .getfield idx => x.2.2.1 < 9 ∧ x.2.2.2.1 < av_N x.2.2.1 ∧ x.2.2.2.2.1 = av_tg (av_ty x.2.2.1 x.2.2.2.1) ∧ av_FL own idx x.2.2.1 x.2.2.2.1
  | .putfield idx => x.2.2.1 < 9 ∧ x.2.2.2.1 < av_N x.2.2.1 ∧ x.2.2.2.2.1 = av_tg (av_ty x.2.2.1 x.2.2.2.1) ∧ (x.2.2.2.2.1 = 0 → av_ty x.2.2.1 x.2.2.2.1 = .int) ∧ av_FL own idx x.2.2.1 x.2.2.2.1 ∧
    ((av_T x.2.2.1 x.2.2.2.1).2.2.2 = false ∨ (own = x.2.2.1 ∧ (av_T x.2.2.1 x.2.2.2.1).1 = av_cn x.2.2.1 ∧ ini = true ∧ Cond.fieldLink (av_cn own) idx (av_T x.2.2.1 x.2.2.2.1).1 (av_T x.2.2.1 x.2.2.2.1).2.1 (av_T x.2.2.1 x.2.2.2.1).2.2.1 ∈ lw_tbl))
  | .getstatic idx => ∃ host, Cond.fieldLinkNest (av_cn own) idx RX7 "PLAIN_LAW" "[I" host ∈ lw_tbl
  | .newarray t => Cond.arrayClass (newarray.typeOf t) ∈ lw_tbl
  | .anewarray idx => ∃ C0, av_ft x.2.2.1 = .object C0 ∧ Cond.classLink (av_cn own) idx C0 ∈ lw_tbl ∧ Cond.arrayOver (.object C0) ∈ lw_tbl
  | .multianewarray idx d => d = 2 ∧ Cond.classLink (av_cn own) idx "[[I" ∈ lw_tbl
  | .new idx => x.2.2.1 < 9 ∧ Cond.classLink (av_cn own) idx (av_cn x.2.2.1) ∈ lw_tbl
  | .checkcast idx => Cond.classLink (av_cn own) idx "[I" ∈ lw_tbl
  | .invokespecial idx => 1000 ≤ x.2.2.1 → x.2.2.1 = 1000 ∧ av_lkP own 1000 idx ∧ 1 ≤ fr ∧ 40 ≤ lo
  | .invokestatic idx => 1000 ≤ x.2.2.1 → (x.2.2.1 = 1001 ∨ x.2.2.1 = 1002 ∨ x.2.2.1 = 1003) ∧ av_lkP own x.2.2.1 idx ∧ 1 ≤ fr ∧ 40 ≤ lo
  | .invokevirtual idx => 1000 ≤ x.2.2.1 → (x.2.2.1 = 1004 ∨ x.2.2.1 = 1005 ∨ x.2.2.1 = 1006) ∧ av_lkP own x.2.2.1 idx ∧ 4 ≤ fr ∧ 120 ≤ lo
  | _ => True)
/-- what the start holds that no cell of ours is -/
def av_Gl (s0 : State) (kr ad : Nat → Nat) (sc : av_Sr) : Prop := av_Sc s0 kr sc ∧ av_Pl s0 kr ∧ av_Str s0 kr ad ∧ ∀ q ∈ av_strs, vk_R (av_cn q.1) q.2.1 q.2.2.2 (kr q.2.2.1) s0
set_option maxRecDepth 100000 in
theorem av_f_oi : Cond.instanceMethod Lib.objectInit ∈ lw_tbl := av_mem (i := 24) rfl
set_option maxRecDepth 100000 in
theorem av_f_oc : Cond.code Lib.objectInit ⟨#[0xb1]⟩ 1 none ∈ lw_tbl := av_mem (i := 25) rfl
set_option maxRecDepth 100000 in
theorem av_f_ovA : Cond.arrayOver (.array .int) ∈ lw_tbl := av_mem (i := 68) rfl
set_option maxRecDepth 100000 in
theorem av_f_acI : Cond.arrayClass .int ∈ lw_tbl := av_mem (i := 95) rfl
set_option maxRecDepth 100000 in
theorem av_f_maxs : Cond.static Lib.Math.max.name ∈ lw_tbl := av_mem (i := 156) rfl
set_option maxRecDepth 100000 in
theorem av_f_maxc : Cond.code Lib.Math.max.name Lib.Math.max.code 2 (some .int) ∈ lw_tbl := av_mem (i := 157) rfl
set_option maxRecDepth 100000 in
theorem av_f_mins : Cond.static Lib.Math.min.name ∈ lw_tbl := av_mem (i := 150) rfl
set_option maxRecDepth 100000 in
theorem av_f_minc : Cond.code Lib.Math.min.name Lib.Math.min.code 2 (some .int) ∈ lw_tbl := av_mem (i := 151) rfl
set_option maxRecDepth 100000 in
theorem av_f_mi : Cond.initialized "java/lang/Math" ∈ lw_tbl := av_mem (i := 9) rfl
set_option maxRecDepth 100000 in
theorem av_f_si : Cond.initialized "java/lang/System" ∈ lw_tbl := av_mem (i := 10) rfl
set_option maxRecDepth 100000 in
theorem av_f_acn : Cond.native arraycopyName ∈ lw_tbl := av_mem (i := 154) rfl
set_option maxRecDepth 100000 in
theorem av_f_acs : Cond.static arraycopyName ∈ lw_tbl := av_mem (i := 153) rfl
set_option maxRecDepth 100000 in
theorem av_f_cls : Cond.sameMethod "[I" "java/lang/Object" "clone" "()Ljava/lang/Object;" ∈ lw_tbl := av_mem (i := 143) rfl
set_option maxRecDepth 100000 in
theorem av_f_cln : Cond.native ⟨"java/lang/Object", "clone", "()Ljava/lang/Object;"⟩ ∈ lw_tbl := av_mem (i := 144) rfl
set_option maxRecDepth 100000 in
theorem av_f_cli : Cond.instanceMethod ⟨"java/lang/Object", "clone", "()Ljava/lang/Object;"⟩ ∈ lw_tbl := av_mem (i := 145) rfl
set_option maxRecDepth 100000 in
theorem av_f_cle : Cond.selects "[I" ⟨"[I", "clone", "()Ljava/lang/Object;"⟩ ⟨"java/lang/Object", "clone", "()Ljava/lang/Object;"⟩ ∈ lw_tbl := av_mem (i := 146) rfl
set_option maxRecDepth 100000 in
theorem av_f_clc : Cond.castable "[I" "java/lang/Cloneable" ∈ lw_tbl := av_mem (i := 147) rfl
set_option maxRecDepth 100000 in
theorem av_f_leni : Cond.instanceMethod sm_y_len ∈ lw_tbl := av_mem (i := 375) rfl
set_option maxRecDepth 100000 in
theorem av_f_lene : Cond.selects "java/lang/String" sm_y_len sm_y_len ∈ lw_tbl := av_mem (i := 376) rfl
set_option maxRecDepth 100000 in
theorem av_f_lenc : Cond.code sm_y_len sm_c_len 1 (some .int) ∈ lw_tbl := av_mem (i := 377) rfl
set_option maxRecDepth 100000 in
theorem av_f_chri : Cond.instanceMethod sm_y_chr ∈ lw_tbl := av_mem (i := 385) rfl
set_option maxRecDepth 100000 in
theorem av_f_chre : Cond.selects "java/lang/String" sm_y_chr sm_y_chr ∈ lw_tbl := av_mem (i := 386) rfl
set_option maxRecDepth 100000 in
theorem av_f_chrc : Cond.code sm_y_chr sm_c_chr 2 (some .char) ∈ lw_tbl := av_mem (i := 387) rfl
set_option maxRecDepth 100000 in
theorem av_f_sti : Cond.initialized "java/lang/String" ∈ lw_tbl := av_mem (i := 13) rfl
theorem av_loff {ps : List (Int × Int)} {d v z : Int} (h1 : 0 ≤ z + d) (h2 : ∀ q ∈ ps, 0 ≤ z + q.2) : 0 ≤ z + Op.lookupswitch.offset ps d v := by
  induction ps with
  | nil => exact h1
  | cons q r ih =>
    obtain ⟨a, o⟩ := q
    simp only [Op.lookupswitch.offset]
    split
    · exact h2 (a, o) List.mem_cons_self
    · exact ih (fun q hq => h2 q (List.mem_cons_of_mem _ hq))
section AVE
variable {p : Program} {l : Launch} {e : Env} {R : Room} {s : State} {m : MethodId} {args : Array Value} {below : List Frame} {meth : Method} {c : Code} {Q : State → Prop}
variable {a0 : Array Value} {s0 : State} {D : va_G} {TY : Nat → ClassId} {kr ad : Nat → Nat} {sc : av_Sr} {own nL fr lo : Nat} {cc : ByteArray} {ini : Bool} {h0 hf h h' : av_H} {pc pc' : Nat} {lv lv' : av_L} {st st' : List av_V}

set_option maxHeartbeats 2000000 in
theorem av_step {x : av_E} (C : av_Cx p R s m meth c a0 s0 D TY own nL cc ini h0 hf) (G : av_Gl s0 kr ad sc) (hfr : R.frames = fr) (hlo : R.locals = lo) (hok : av_ok own cc ini fr lo pc x) (hkd : av_kd x = 0) (hs : av_stp sc x pc lv st h = some (pc', lv', st', h')) (hle : h'.1 ≤ hf.1 ∧ h'.2.1 ≤ hf.2.1) (k : av_W p l e R s m args below meth c Q s0 D TY kr sc nL h0 pc' lv' st' h') : av_W p l e R s m args below meth c Q s0 D TY kr sc nL h0 pc lv st h := by
  obtain ⟨ins, ln, xa, xb, xc, xk⟩ := x
  cases ins with
  | iconst n =>
    simp only [av_ok, av_len] at hok
    cases hs
    exact av_s_iconst C hok.1 k
  | bipush n =>
    simp only [av_ok, av_len] at hok
    cases hs
    exact av_s_bipush C hok.1 hok.2 k
  | sipush n =>
    simp only [av_ok, av_len] at hok
    cases hs
    exact av_s_sipush C hok.1 hok.2 k
  | lconst n =>
    simp only [av_ok, av_len] at hok
    cases hs
    exact av_s_lconst C hok.1 k
  | aconst_null =>
    simp only [av_ok, av_len] at hok
    cases hs
    exact av_s_null C hok.1 k
  | ldc n =>
    simp only [av_ok, av_len] at hok
    rcases hok.2 with ⟨q1, q2⟩ | ⟨q1, tx, q2⟩
    · simp only [av_stp, if_pos q1] at hs
      cases hs
      exact av_s_ldc C hok.1 q2 k
    · simp only [av_stp, if_neg q1] at hs
      cases hs
      have q3 := G.2.2.2 (own, n, xb, tx) q2
      exact av_s_ldcS C hok.1 q3 k
  | ldc_w n =>
    simp only [av_ok, av_len] at hok
    cases hs
    exact av_s_ldcw C hok.1 hok.2 k
  | ldc2_w n =>
    simp only [av_ok, av_len] at hok
    cases hs
    exact av_s_ldc2 C hok.1 hok.2 k
  | iload_n i =>
    simp only [av_ok, av_len] at hok
    exact av_s_iload_n C hok.1 hs k
  | iload i =>
    simp only [av_ok, av_len] at hok
    exact av_s_iload C hok.1 hs k
  | aload_n i =>
    simp only [av_ok, av_len] at hok
    exact av_s_aload_n C hok.1 hs k
  | aload i =>
    simp only [av_ok, av_len] at hok
    exact av_s_aload C hok.1 hs k
  | lload_n i =>
    simp only [av_ok, av_len] at hok
    exact av_s_lload_n C hok.1 hs k
  | lload i =>
    simp only [av_ok, av_len] at hok
    exact av_s_lload C hok.1 hs k
  | istore_n i =>
    simp only [av_ok, av_len] at hok
    exact av_s_istore_n C hok.1 hs k
  | istore i =>
    simp only [av_ok, av_len] at hok
    exact av_s_istore C hok.1 hs k
  | astore_n i =>
    simp only [av_ok, av_len] at hok
    exact av_s_astore_n C hok.1 hs k
  | astore i =>
    simp only [av_ok, av_len] at hok
    exact av_s_astore C hok.1 hs k
  | iinc i n =>
    simp only [av_ok, av_len] at hok
    exact av_s_iinc C hok.1 hs k
  | iadd =>
    simp only [av_ok, av_len] at hok
    exact av_s_iadd C hok.1 hs k
  | isub =>
    simp only [av_ok, av_len] at hok
    exact av_s_isub C hok.1 hs k
  | imul =>
    simp only [av_ok, av_len] at hok
    exact av_s_imul C hok.1 hs k
  | iand =>
    simp only [av_ok, av_len] at hok
    exact av_s_iand C hok.1 hs k
  | ior =>
    simp only [av_ok, av_len] at hok
    exact av_s_ior C hok.1 hs k
  | ishl =>
    simp only [av_ok, av_len] at hok
    exact av_s_ishl C hok.1 hs k
  | ishr =>
    simp only [av_ok, av_len] at hok
    exact av_s_ishr C hok.1 hs k
  | iushr =>
    simp only [av_ok, av_len] at hok
    exact av_s_iushr C hok.1 hs k
  | idiv =>
    simp only [av_ok, av_len] at hok
    simp only [av_stp] at hs
    split at hs
    · split at hs
      · cases hs
      · next q =>
        cases hs
        exact av_s_idiv C hok.1 q k
    · cases hs
  | irem =>
    simp only [av_ok, av_len] at hok
    simp only [av_stp] at hs
    split at hs
    · split at hs
      · cases hs
      · next q =>
        cases hs
        exact av_s_irem C hok.1 q k
    · cases hs
  | ladd =>
    simp only [av_ok, av_len] at hok
    simp only [av_stp] at hs
    split at hs
    · cases hs
      exact av_s_ladd C hok.1 k
    · cases hs
  | lmul =>
    simp only [av_ok, av_len] at hok
    simp only [av_stp] at hs
    split at hs
    · cases hs
      exact av_s_lmul C hok.1 k
    · cases hs
  | lcmp =>
    simp only [av_ok, av_len] at hok
    simp only [av_stp] at hs
    split at hs
    · cases hs
      exact av_s_lcmp C hok.1 k
    · cases hs
  | i2l =>
    simp only [av_ok, av_len] at hok
    simp only [av_stp] at hs
    split at hs
    · cases hs
      exact av_s_i2l C hok.1 k
    · cases hs
  | l2i =>
    simp only [av_ok, av_len] at hok
    simp only [av_stp] at hs
    split at hs
    · cases hs
      exact av_s_l2i C hok.1 k
    · cases hs
  | i2b =>
    simp only [av_ok, av_len] at hok
    simp only [av_stp] at hs
    split at hs
    · cases hs
      exact av_s_i2b C hok.1 k
    · cases hs
  | dup =>
    simp only [av_ok, av_len] at hok
    simp only [av_stp] at hs
    split at hs
    · split at hs
      · next q =>
        cases hs
        exact av_s_dup C hok.1 q k
      · cases hs
    · cases hs
  | pop =>
    simp only [av_ok, av_len] at hok
    simp only [av_stp] at hs
    split at hs
    · split at hs
      · next q =>
        cases hs
        exact av_s_pop C hok.1 q k
      · cases hs
    · cases hs
  | dup2 =>
    simp only [av_ok, av_len] at hok
    simp only [av_stp] at hs
    split at hs
    · split at hs
      · next q =>
        cases hs
        exact av_s_dup2 C hok.1 q.1 q.2 k
      · cases hs
    · cases hs
  | goto off =>
    simp only [av_ok, av_len] at hok
    cases hs
    exact av_s_goto C hok.1 hok.2 k
  | ifCond c0 off =>
    simp only [av_ok, av_len] at hok
    simp only [av_stp] at hs
    split at hs
    · cases hs
      exact av_s_if C hok.1 hok.2 k
    · cases hs
  | if_icmp c0 off =>
    simp only [av_ok, av_len] at hok
    simp only [av_stp] at hs
    split at hs
    · cases hs
      exact av_s_icmp C hok.1 hok.2 k
    · cases hs
  | ifnull off =>
    simp only [av_ok, av_len] at hok
    simp only [av_stp] at hs
    split at hs
    · cases hs
      exact av_s_ifnull C hok.1 hok.2 k
    · cases hs
  | ifnonnull off =>
    simp only [av_ok, av_len] at hok
    simp only [av_stp] at hs
    split at hs
    · cases hs
      exact av_s_ifnonnull C hok.1 hok.2 k
    · cases hs
  | tableswitch d0 low high offs =>
    simp only [av_ok, av_len] at hok
    simp only [av_stp] at hs
    split at hs
    · cases hs
      exact av_s_table C hok.1 hok.2.1 hok.2.2.1 hok.2.2.2 k
    · cases hs
  | lookupswitch d0 ps =>
    simp only [av_ok, av_len] at hok
    simp only [av_stp] at hs
    split at hs
    · cases hs
      exact av_s_lookup C hok.1 hok.2.1 (av_loff hok.2.2.1 hok.2.2.2) k
    · cases hs
  | getfield idx =>
    simp only [av_ok, av_len] at hok
    exact av_s_getf C hok.1 hok.2.1 hok.2.2.1 hok.2.2.2.1 hok.2.2.2.2 hs k
  | putfield idx =>
    simp only [av_ok, av_len] at hok
    exact av_s_putf C hok.1 hok.2.1 hok.2.2.1 hok.2.2.2.1 hok.2.2.2.2.1 hok.2.2.2.2.2.1 hok.2.2.2.2.2.2 hs k
  | getstatic idx =>
    simp only [av_ok, av_len] at hok
    cases hs
    exact av_s_gets C G.2.1 hok.1 (Or.inr hok.2) k
  | iaload =>
    simp only [av_ok, av_len] at hok
    exact av_s_iald C G.1 hok.1 hs k
  | baload =>
    simp only [av_ok, av_len] at hok
    exact av_s_bald C hok.1 hs k
  | aaload =>
    simp only [av_ok, av_len] at hok
    exact av_s_aald C hok.1 hs k
  | iastore =>
    simp only [av_ok, av_len] at hok
    exact av_s_iast C hok.1 hs k
  | bastore =>
    simp only [av_ok, av_len] at hok
    exact av_s_bast C hok.1 hs k
  | aastore =>
    simp only [av_ok, av_len] at hok
    exact av_s_aast C hok.1 hs k
  | arraylength =>
    simp only [av_ok, av_len] at hok
    exact av_s_alen C G.1 hok.1 hs k
  | newarray t =>
    simp only [av_ok, av_len] at hok
    exact av_s_newa C hok.1 hok.2 hs hle k
  | anewarray idx =>
    simp only [av_ok, av_len] at hok
    obtain ⟨C0, q1, q2, q3⟩ := hok.2
    exact av_s_anew (x := (.anewarray idx, ln, xa, xb, xc, xk)) C hok.1 q1 q2 q3 hs hle k
  | multianewarray idx d0 =>
    simp only [av_ok, av_len] at hok
    obtain ⟨q1, q2⟩ := hok.2
    subst q1
    exact av_s_mnew C hok.1 q2 av_f_ovA av_f_acI hs hle k
  | new idx =>
    simp only [av_ok, av_len] at hok
    cases hs
    exact av_s_new (x := (.new idx, ln, xa, xb, xc, xk)) C hok.1 hok.2.1 hok.2.2 hle k
  | checkcast idx =>
    simp only [av_ok, av_len] at hok
    simp only [av_stp] at hs
    split at hs
    · split at hs
      · next q =>
        cases hs
        exact av_s_cast C hok.1 hok.2 q k
      · cases hs
    · cases hs
  | invokespecial idx =>
    simp only [av_ok, av_len] at hok
    have hk9 : 1000 ≤ xa := by
      simp only [av_kd] at hkd
      split at hkd
      · cases hkd
      · omega
    obtain ⟨q1, q2, q3, q4⟩ := hok.2 hk9
    have q1 : xa = 1000 := q1
    subst q1
    simp only [av_stp] at hs
    unfold av_lib at hs
    split at hs <;> first | (next he => exact absurd he (by decide)) | skip
    · split at hs
      · next q =>
        cases hs
        exact av_s_objInit C hok.1 q2 av_f_oi av_f_oc q (by rw [hfr]; exact q3) (by rw [hlo]; exact q4) k
      · cases hs
    all_goals first | (cases hs; done) | skip
  | invokestatic idx =>
    simp only [av_ok, av_len] at hok
    have hk9 : 1000 ≤ xa := by
      simp only [av_kd] at hkd
      split at hkd
      · cases hkd
      · omega
    obtain ⟨q1, q2, q3, q4⟩ := hok.2 hk9
    have hf1 : 1 ≤ R.frames := by rw [hfr]; exact q3
    have hl1 : 40 ≤ R.locals := by rw [hlo]; exact q4
    simp only [av_stp] at hs
    rcases q1 with q1 | q1 | q1
    · have q1 : xa = 1001 := q1
      subst q1
      unfold av_lib at hs
      split at hs <;> first | (next he => exact absurd he (by decide)) | skip
      · split at hs
        · next q =>
          cases hs
          exact av_s_max C hok.1 q2 av_f_maxs av_f_mi av_f_maxc q hf1 hl1 hle k
        · cases hs
      all_goals first | (cases hs; done) | skip
    · have q1 : xa = 1002 := q1
      subst q1
      unfold av_lib at hs
      split at hs <;> first | (next he => exact absurd he (by decide)) | skip
      · split at hs
        · next q =>
          cases hs
          exact av_s_min C hok.1 q2 av_f_mins av_f_mi av_f_minc q hf1 hl1 hle k
        · cases hs
      all_goals first | (cases hs; done) | skip
    · have q1 : xa = 1003 := q1
      subst q1
      unfold av_lib at hs
      split at hs <;> first | (next he => exact absurd he (by decide)) | skip
      · split at hs
        · next q =>
          cases hs
          exact av_s_copy C hok.1 q2 av_f_acn av_f_acs av_f_si q.1 hf1 hl1 q.2 k
        · cases hs
      · split at hs
        · next q =>
          cases hs
          exact av_s_copyP C G.2.1 hok.1 q2 av_f_acn av_f_acs av_f_si q.1 hf1 hl1 q.2 k
        · cases hs
      all_goals first | (cases hs; done) | skip
  | invokevirtual idx =>
    simp only [av_ok, av_len] at hok
    have hk9 : 1000 ≤ xa := by
      simp only [av_kd] at hkd
      split at hkd
      · cases hkd
      · omega
    obtain ⟨q1, q2, q3, q4⟩ := hok.2 hk9
    have hf1 : 4 ≤ R.frames := by rw [hfr]; exact q3
    have hl1 : 120 ≤ R.locals := by rw [hlo]; exact q4
    simp only [av_stp] at hs
    rcases q1 with q1 | q1 | q1
    · have q1 : xa = 1004 := q1
      subst q1
      unfold av_lib at hs
      split at hs <;> first | (next he => exact absurd he (by decide)) | skip
      · split at hs
        · next q =>
          cases hs
          exact av_s_clone C hok.1 q2 av_f_cls av_f_cln av_f_cli av_f_cle av_f_clc q.2 q.1 (by omega) (by omega) hle k
        · cases hs
      all_goals first | (cases hs; done) | skip
    · have q1 : xa = 1005 := q1
      subst q1
      unfold av_lib at hs
      split at hs <;> first | (next he => exact absurd he (by decide)) | skip
      · split at hs
        · next q =>
          cases hs
          exact av_s_len C G.2.2.1 hok.1 q2 av_f_leni av_f_lene av_f_lenc av_f_sti q.1 q.2 (by omega) (by omega) hle k
        · cases hs
      all_goals first | (cases hs; done) | skip
    · have q1 : xa = 1006 := q1
      subst q1
      unfold av_lib at hs
      split at hs <;> first | (next he => exact absurd he (by decide)) | skip
      · split at hs
        · next q =>
          cases hs
          exact av_s_chr C G.2.2.1 hok.1 q2 av_f_chri av_f_chre av_f_chrc av_f_sti q.1 q.2.1 q.2.2 (by omega) (by omega) hle k
        · cases hs
      all_goals first | (cases hs; done) | skip
  | _ =>
    simp only [av_stp] at hs
    cases hs
end AVE
end
section
/-! EVERY RUN: what the small machine answers, the machine answers -/
theorem av_m_bin {f : Int → Int → Int} {pc pc' : Nat} {lv lv' : av_L} {st st' : List av_V} {h h' : av_H} (hs : av_bin f pc lv st h = some (pc', lv', st', h')) : h' = h := by
  unfold av_bin at hs
  split at hs
  · cases hs; rfl
  · cases hs
theorem av_m_ldi {i n pc pc' : Nat} {lv lv' : av_L} {st st' : List av_V} {h h' : av_H} (hs : av_ldi i n pc lv st h = some (pc', lv', st', h')) : h' = h := by
  unfold av_ldi at hs
  split at hs
  · cases hs; rfl
  · cases hs
theorem av_m_lda {i n pc pc' : Nat} {lv lv' : av_L} {st st' : List av_V} {h h' : av_H} (hs : av_lda i n pc lv st h = some (pc', lv', st', h')) : h' = h := by
  unfold av_lda at hs
  split at hs
  · cases hs; rfl
  · cases hs
theorem av_m_ldl {i n pc pc' : Nat} {lv lv' : av_L} {st st' : List av_V} {h h' : av_H} (hs : av_ldl i n pc lv st h = some (pc', lv', st', h')) : h' = h := by
  unfold av_ldl at hs
  split at hs
  · cases hs; rfl
  · cases hs
theorem av_m_sti {i n pc pc' : Nat} {lv lv' : av_L} {st st' : List av_V} {h h' : av_H} (hs : av_sti i n pc lv st h = some (pc', lv', st', h')) : h' = h := by
  unfold av_sti at hs
  split at hs
  · rw [Option.map_eq_some_iff] at hs
    obtain ⟨_, -, he⟩ := hs
    cases he; rfl
  · cases hs
theorem av_m_sta {i n pc pc' : Nat} {lv lv' : av_L} {st st' : List av_V} {h h' : av_H} (hs : av_sta i n pc lv st h = some (pc', lv', st', h')) : h' = h := by
  unfold av_sta at hs
  split at hs
  · rw [Option.map_eq_some_iff] at hs
    obtain ⟨_, -, he⟩ := hs
    cases he; rfl
  · cases hs
theorem av_m_iinc {i : Nat} {n : Int} {pc pc' : Nat} {lv lv' : av_L} {st st' : List av_V} {h h' : av_H} (hs : av_iinc i n pc lv st h = some (pc', lv', st', h')) : h' = h := by
  unfold av_iinc at hs
  split at hs
  · rw [Option.map_eq_some_iff] at hs
    obtain ⟨_, -, he⟩ := hs
    cases he; rfl
  · cases hs
/-- cells and slots only grow -/
abbrev av_gr (h h' : av_H) : Prop := h.1 ≤ h'.1 ∧ h.2.1 ≤ h'.2.1
theorem av_gr_of {h h' : av_H} (e : h' = h) : av_gr h h' := by
  rw [e]
  exact ⟨Nat.le_refl _, Nat.le_refl _⟩
theorem av_m_putf {x : av_E} {pc pc' : Nat} {lv lv' : av_L} {st st' : List av_V} {h h' : av_H} (hs : av_putf x pc lv st h = some (pc', lv', st', h')) : av_gr h h' := by
  unfold av_putf at hs
  split at hs
  · split at hs
    · cases hs; exact ⟨Nat.le_refl _, Nat.le_refl _⟩
    · cases hs
  · split at hs
    · cases hs; exact ⟨Nat.le_refl _, Nat.le_refl _⟩
    · cases hs
  · split at hs
    · cases hs; exact ⟨Nat.le_refl _, Nat.le_refl _⟩
    · cases hs
  · split at hs
    · cases hs; exact ⟨Nat.le_refl _, Nat.le_refl _⟩
    · cases hs
  · cases hs
theorem av_m_lib {a pc pc' : Nat} {lv lv' : av_L} {st st' : List av_V} {h h' : av_H} (hs : av_lib a pc lv st h = some (pc', lv', st', h')) : av_gr h h' := by
  unfold av_lib at hs
  split at hs
  · split at hs
    · cases hs; exact ⟨Nat.le_refl _, Nat.le_refl _⟩
    · cases hs
  · split at hs
    · cases hs; exact ⟨Nat.le_refl _, Nat.le_refl _⟩
    · cases hs
  · split at hs
    · cases hs; exact ⟨Nat.le_refl _, Nat.le_refl _⟩
    · cases hs
  · split at hs
    · cases hs; exact ⟨Nat.le_refl _, Nat.le_refl _⟩
    · cases hs
  · split at hs
    · cases hs; exact ⟨Nat.le_refl _, Nat.le_refl _⟩
    · cases hs
  · split at hs
    · cases hs; exact ⟨Nat.le_succ _, Nat.le_add_right _ _⟩
    · cases hs
  · split at hs
    · cases hs; exact ⟨Nat.le_refl _, Nat.le_refl _⟩
    · cases hs
  · split at hs
    · cases hs; exact ⟨Nat.le_refl _, Nat.le_refl _⟩
    · cases hs
  · cases hs
theorem av_m_stp {sc : av_Sr} {x : av_E} {pc pc' : Nat} {lv lv' : av_L} {st st' : List av_V} {h h' : av_H} (hs : av_stp sc x pc lv st h = some (pc', lv', st', h')) : av_gr h h' := by
  obtain ⟨ins, ln, xa, xb, xc, xk⟩ := x
  cases ins <;> simp only [av_stp] at hs
  all_goals first
    | (cases hs; done)
    | exact av_gr_of (av_m_bin hs)
    | exact av_gr_of (av_m_ldi hs)
    | exact av_gr_of (av_m_lda hs)
    | exact av_gr_of (av_m_ldl hs)
    | exact av_gr_of (av_m_sti hs)
    | exact av_gr_of (av_m_sta hs)
    | exact av_gr_of (av_m_iinc hs)
    | exact av_m_putf hs
    | exact av_m_lib hs
    | (cases hs; exact ⟨Nat.le_refl _, Nat.le_refl _⟩)
    | (cases hs; exact ⟨Nat.le_succ _, Nat.le_add_right _ _⟩)
    | skip
  all_goals first
    | unfold av_getf at hs
    | unfold av_ald at hs
    | unfold av_aald at hs
    | unfold av_iast at hs
    | unfold av_bast at hs
    | unfold av_aast at hs
    | unfold av_alen at hs
    | unfold av_newa at hs
    | unfold av_anew at hs
    | unfold av_mnew at hs
    | skip
  all_goals (repeat' split at hs)
  all_goals first
    | (cases hs; done)
    | (cases hs; exact ⟨Nat.le_refl _, Nat.le_refl _⟩)
    | (cases hs; exact ⟨Nat.le_succ _, Nat.le_add_right _ _⟩)
    | (cases hs; exact ⟨by show h.1 ≤ h.1 + 1 + _; omega, by show h.2.1 ≤ h.2.1 + _ + _; omega⟩)
theorem av_mono (P : av_P) : ∀ (n : Nat) (sc : av_Sr) (cd : List (Nat × av_E)) (pc : Nat) (lv : av_L) (st : List av_V) (h : av_H) (v : Option av_V) (h' : av_H), av_run P sc n cd pc lv st h = some (v, h') → av_gr h h' := by
  intro n
  induction n with
  | zero => intro sc cd pc lv st h v h' hs; simp [av_run] at hs
  | succ n ih =>
    intro sc cd pc lv st h v h' hs
    unfold av_run at hs
    split at hs
    · cases hs
    · next x hx =>
      split at hs
      · split at hs
        · cases hs
        · next pc1 lv1 st1 h1 hs1 =>
          have e1 := av_m_stp hs1
          have e2 := ih _ _ _ _ _ _ _ _ hs
          exact ⟨Nat.le_trans e1.1 e2.1, Nat.le_trans e1.2 e2.2⟩
      · unfold av_ret at hs
        split at hs
        · cases hs; exact ⟨Nat.le_refl _, Nat.le_refl _⟩
        · split at hs
          · cases hs; exact ⟨Nat.le_refl _, Nat.le_refl _⟩
          · cases hs
        · cases hs; exact ⟨Nat.le_refl _, Nat.le_refl _⟩
        · cases hs
      · split at hs
        · split at hs
          · split at hs
            · cases hs
            · next v1 h1 hs1 =>
              have e1 := ih _ _ _ _ _ _ _ _ hs1
              have e2 := ih _ _ _ _ _ _ _ _ hs
              exact ⟨Nat.le_trans e1.1 e2.1, Nat.le_trans e1.2 e2.2⟩
          · cases hs
        · cases hs
/-- a method: its class's row, name, bytes, locals, what it returns, its kind (0 an object's, 1 a constructor, 2 static), how many arguments, frames and words that it needs, its code -/
abbrev av_Mr : Type := Nat × MethodName × ByteArray × Nat × Option FieldType × Nat × Nat × Nat × Nat × List (Nat × av_E)
def av_rtk (rt : Option FieldType) (ins : Instr) (v : Option av_V) : Prop :=
  (ins = .return_ ∧ v = none ∧ rt = none) ∨ (ins = .ireturn ∧ ∃ x, v = some (.inl x) ∧ (rt = some .int ∨ (rt = some .boolean ∧ (x = 0 ∨ x = 1)))) ∨ (ins = .areturn ∧ ∃ q, v = some (.inr (.inr (.inl q))) ∧ ∃ t, rt = some t ∧ ((∃ n, t = .object n) ∨ ∃ u, t = .array u))
/-- a return's entry says what the method returns -/
def av_rok (rt : Option FieldType) (x : av_E) : Prop := match x.1 with
  | .return_ => rt = none
  | .ireturn => (x.2.2.1 = 0 ∧ rt = some .int) ∨ (x.2.2.1 = 1 ∧ rt = some .boolean)
  | .areturn => ∃ t, rt = some t ∧ ((∃ n, t = .object n) ∨ ∃ u, t = .array u)
  | _ => True
/-- a call's entry names a method of the table, of its kind, by the tables' word or by the nest's, and there is room for it -/
def av_cok (T : Nat → Option av_Mr) (own fr lo : Nat) (x : av_E) : Prop := ∃ r : av_Mr, T x.2.2.1 = some r ∧ r.2.2.2.2.2.1 = x.2.2.2.2.1 ∧ r.2.2.2.2.2.2.1 = x.2.2.2.1 ∧ (r.1 : Int) = x.2.2.2.2.2 ∧ r.2.2.2.2.2.2.2.1 + 1 ≤ fr ∧ 8 + (r.2.2.2.1 + 11) + r.2.2.2.2.2.2.2.2.1 ≤ lo ∧
  (match x.1 with
  | .invokevirtual idx => x.2.2.2.2.1 = 0 ∧ Cond.methodLink (av_cn own) idx r.2.1 ∈ lw_tbl
  | .invokespecial idx => x.2.2.2.2.1 = 1 ∧ (Cond.methodLink (av_cn own) idx r.2.1 ∈ lw_tbl ∨ ∃ host, Cond.methodLinkNest (av_cn own) idx r.2.1 host ∈ lw_tbl)
  | .invokestatic idx => x.2.2.2.2.1 = 2 ∧ Cond.methodLink (av_cn own) idx r.2.1 ∈ lw_tbl
  | _ => True)
/-- a method's code is what its bytes say -/
def av_dok (T : Nat → Option av_Mr) (r : av_Mr) : Prop := ∀ q ∈ r.2.2.2.2.2.2.2.2.2, av_ok r.1 r.2.2.1 (decide (r.2.2.2.2.2.1 = 1)) r.2.2.2.2.2.2.2.1 r.2.2.2.2.2.2.2.2.1 q.1 q.2 ∧ av_rok r.2.2.2.2.1 q.2 ∧ (av_kd q.2 = 2 → av_cok T r.1 r.2.2.2.2.2.2.2.1 r.2.2.2.2.2.2.2.2.1 q.2)
/-- a method that may be called: what the tables say of it -/
def av_hok (r : av_Mr) : Prop := plainName r.2.1.cls = true ∧ av_cn r.1 = r.2.1.cls ∧ Cond.code r.2.1 r.2.2.1 r.2.2.2.1 r.2.2.2.2.1 ∈ lw_tbl ∧ Cond.initialized r.2.1.cls ∈ lw_tbl ∧ (r.2.1.cls ≠ "java/lang/invoke/MethodHandle" ∧ r.2.1.cls ≠ "java/lang/invoke/VarHandle") ∧ (parseMethodDescriptor r.2.1.desc).map (fun d => d.parameters.length) = some r.2.2.2.2.2.2.1 ∧
  ((r.2.2.2.2.2.1 = 0 ∧ r.1 < 9 ∧ Cond.instanceMethod r.2.1 ∈ lw_tbl ∧ Cond.selects r.2.1.cls r.2.1 r.2.1 ∈ lw_tbl) ∨ (r.2.2.2.2.2.1 = 1 ∧ r.2.1.name = "<init>" ∧ Cond.instanceMethod r.2.1 ∈ lw_tbl ∧ r.2.2.2.2.1 = none) ∨ (r.2.2.2.2.2.1 = 2 ∧ Cond.static r.2.1 ∈ lw_tbl))
def av_Good (T : Nat → Option av_Mr) : Prop := ∀ mi r, T mi = some r → av_dok T r ∧ av_hok r
def av_Pt (T : Nat → Option av_Mr) : av_P := fun mi => (T mi).map (fun r => (r.2.2.2.1, r.2.2.2.2.2.2.2.2.2))
end
section
/-! THE RUN: by the fuel -/
def av_Qm (s0 : State) (D : va_G) (TY : Nat → ClassId) (kr : Nat → Nat) (sc : av_Sr) (v : Option av_V) (h' : av_H) : Array Value → State → Outcome → State → Prop := fun _ _ o t => o = .returned (v.map (av_ev s0.heap.size kr)) ∧ av_R s0 D TY sc h' t.heap
def av_Pm (s0 : State) (D : va_G) (TY : Nat → ClassId) (kr : Nat → Nat) (sc : av_Sr) (vs : List av_V) (h : av_H) : Array Value → State → Prop := fun a U => a = (vs.map (av_ev s0.heap.size kr)).toArray ∧ s0.WarmedH U.vm ∧ av_R s0 D TY sc h U.heap
def av_Rm (r : av_Mr) (h h' : av_H) : Room := { frames := r.2.2.2.2.2.2.2.1, cells := h'.1 - h.1, slots := h'.2.1 - h.2.1, locals := r.2.2.2.2.2.2.2.2.1 }
/-- a method's contract, at these values and this heap -/
def av_Mt (l : Launch) (s0 : State) (D : va_G) (TY : Nat → ClassId) (kr : Nat → Nat) (sc : av_Sr) (r : av_Mr) (vs : List av_V) (h : av_H) (v : Option av_V) (h' : av_H) : Prop :=
  Met l r.2.1 [Cond.code r.2.1 r.2.2.1 r.2.2.2.1 r.2.2.2.2.1] (av_Rm r h h') (av_Pm s0 D TY kr sc vs h) (av_Qm s0 D TY kr sc v h') (h'.1 - h.1) (h'.2.1 - h.2.1) (fun q => s0.heap.size ≤ q)
theorem av_lookup {cd : List (Nat × av_E)} {pc : Nat} {x : av_E} (h : cd.lookup pc = some x) : (pc, x) ∈ cd := by
  induction cd with
  | nil => cases h
  | cons q t ih =>
    obtain ⟨k, y⟩ := q
    simp only [List.lookup] at h
    split at h
    · next e =>
      cases h
      have e1 : pc = k := by simpa using e
      rw [e1]
      exact List.mem_cons_self
    · exact List.mem_cons_of_mem _ (ih h)
theorem av_ents {z : Nat} {kr : Nat → Nat} : ∀ (vs : List av_V), (lg_sl (vs.map (av_ev z kr))).length = (av_args vs).length ∧ ∀ (i : Nat) (v : av_V), (av_args vs)[i]? = some (some v) → ∀ n : Nat, (n + i, av_ev z kr v) ∈ lv_args n (vs.map (av_ev z kr)) := by
  intro vs
  induction vs with
  | nil => exact ⟨rfl, fun i v h => by simp [av_args] at h⟩
  | cons u us ih =>
    by_cases hc : av_cat u = 2
    · have hc' : (av_ev z kr u).category = 2 := by rw [av_ev_cat]; exact hc
      refine ⟨by simp only [List.map_cons, lg_sl, List.flatMap_cons, hc', if_true, av_args, hc] at *; simp [ih.1], fun i v h n => ?_⟩
      simp only [av_args, hc, if_true] at h
      simp only [List.map_cons, lv_args, hc', if_true]
      rcases i with _ | _ | i
      · cases h
        exact List.mem_cons_self
      · cases h
      · have := ih.2 i v (by simpa using h) (n + 2)
        rw [show n + 2 + i = n + (i + 1 + 1) by omega] at this
        exact List.mem_cons_of_mem _ this
    · have hc' : ¬ (av_ev z kr u).category = 2 := by rw [av_ev_cat]; exact hc
      refine ⟨by simp only [List.map_cons, lg_sl, List.flatMap_cons, hc', if_false, av_args, hc] at *; simp [ih.1], fun i v h n => ?_⟩
      simp only [av_args, hc, if_false] at h
      simp only [List.map_cons, lv_args, hc', if_false]
      rcases i with _ | i
      · cases h
        exact List.mem_cons_self
      · have := ih.2 i v (by simpa using h) (n + 1)
        rw [show n + 1 + i = n + (i + 1) by omega] at this
        exact List.mem_cons_of_mem _ this
theorem av_entry {z : Nat} {kr : Nat → Nat} {n : Nat} {vs : List av_V} (h : (av_args vs).length ≤ n) : av_Lr z kr ((lg_sl (vs.map (av_ev z kr)) ++ List.replicate (n - (lg_sl (vs.map (av_ev z kr))).length) Slot.unset).toArray) n (av_ent n vs) := by
  obtain ⟨e1, e2⟩ := av_ents (z := z) (kr := kr) vs
  have hh := lv_entry (vs.map (av_ev z kr)) (n := n) (by rw [e1]; exact h)
  refine ⟨hh.1, by simp [av_ent]; omega, hh.2.1, fun i v hv => ?_⟩
  unfold av_ent at hv
  have hi : i < (av_args vs).length := by
    by_cases q : i < (av_args vs).length
    · exact q
    · rw [List.getElem?_append_right (by omega)] at hv
      have := List.eq_of_mem_replicate (List.mem_of_getElem? hv)
      cases this
  rw [List.getElem?_append_left hi] at hv
  have := e2 i v hv 0
  rw [Nat.zero_add] at this
  exact hh.2.2 _ this
section AVR
variable {l : Launch} {a0 : Array Value} {s0 : State} {D : va_G} {TY : Nat → ClassId} {kr ad : Nat → Nat} {sc : av_Sr} {T : Nat → Option av_Mr}
/-- what a body gives, with this fuel -/
def av_Bd (l : Launch) (a0 : Array Value) (s0 : State) (D : va_G) (TY : Nat → ClassId) (kr : Nat → Nat) (sc : av_Sr) (T : Nat → Option av_Mr) (n : Nat) : Prop :=
  ∀ (p : Program) (e : Env) (R : Room) (s : State) (m : MethodId) (args : Array Value) (below : List Frame) (meth : Method) (c : Code) (Q : State → Prop) (r : av_Mr) (h0 hf h : av_H) (pc : Nat) (lv : av_L) (st : List av_V) (v : Option av_V),
    av_dok T r → av_Cx p R s m meth c a0 s0 D TY r.1 r.2.2.2.1 r.2.2.1 (decide (r.2.2.2.2.2.1 = 1)) h0 hf → R.frames = r.2.2.2.2.2.2.2.1 → R.locals = r.2.2.2.2.2.2.2.2.1 →
    (∀ (pc' : Nat) (lv' : av_L) (ins : Instr), decode r.2.2.1 pc' = .ok (ins, 1) → av_rtk r.2.2.2.2.1 ins v → av_W p l e R s m args below meth c Q s0 D TY kr sc r.2.2.2.1 h0 pc' lv' v.toList hf) →
    av_run (av_Pt T) sc n r.2.2.2.2.2.2.2.2.2 pc lv st h = some (v, hf) → av_W p l e R s m args below meth c Q s0 D TY kr sc r.2.2.2.1 h0 pc lv st h
theorem av_met {n : Nat} (hZ : av_Z a0 s0 D TY) (hB : av_Bd l a0 s0 D TY kr none T n) {r : av_Mr} (hd : av_dok T r) (hh : av_hok r) {vs : List av_V} {h h' : av_H} {v : Option av_V} (ha : (av_args vs).length ≤ r.2.2.2.1) (hr : av_run (av_Pt T) none n r.2.2.2.2.2.2.2.2.2 0 (av_ent r.2.2.2.1 vs) [] h = some (v, h')) : av_Mt l s0 D TY kr sc r vs h v h' := by
  have hmono := av_mono _ _ _ _ _ _ _ _ _ _ hr
  refine Met.ofW (cc := r.2.2.1) (maxL := r.2.2.2.1) (ret := r.2.2.2.2.1) hh.1 rfl ?_
  intro p e s m args below meth c s₁ B hml hv
  obtain ⟨rfl, hW, hR⟩ := hv
  have hown : s.vm.findClass (av_cn r.1) = some m.cls := by
    rw [hh.2.1]
    exact findClass_of_methodNamed B.named
  have hin : decide (r.2.2.2.2.2.1 = 1) = true → meth.name = "<init>" := by
    intro q
    have q := of_decide_eq_true q
    rcases hh.2.2.2.2.2.2 with g | g | g
    · omega
    · rw [(name_of_methodNamed B.named B.method).1]
      exact g.2.1
    · omega
  have hlocks := B.notSynchronized
  have C : av_Cx p (headSpec [Cond.code r.2.1 r.2.2.1 r.2.2.2.1 r.2.2.2.2.1] (av_Rm r h h')).room s m meth c a0 s0 D TY r.1 r.2.2.2.1 r.2.2.1 (decide (r.2.2.2.2.2.1 = 1)) h h' :=
    ⟨B.exec, B.bytes, hml, hown, hW, hZ, hin, Nat.le_refl _, Nat.le_refl _⟩
  have hret : ∀ (pc' : Nat) (lv' : av_L) (ins : Instr), decode r.2.2.1 pc' = .ok (ins, 1) → av_rtk r.2.2.2.2.1 ins v → av_W p l e (headSpec [Cond.code r.2.1 r.2.2.1 r.2.2.2.1 r.2.2.2.2.1] (av_Rm r h h')).room s m (vs.map (av_ev s0.heap.size kr)).toArray below meth c (MQ below (av_Qm s0 D TY kr sc v h') (vs.map (av_ev s0.heap.size kr)).toArray s (h'.1 - h.1) (h'.2.1 - h.2.1) (fun q => s0.heap.size ≤ q)) s0 D TY kr sc r.2.2.2.1 h pc' lv' v.toList h' := by
    intro pc' lv' ins hdg hk H locs ls hR' hl hL _ _
    have hq : ∀ t : State, t.heap = H → s.WarmedH t.vm → av_Qm s0 D TY kr sc v h' (vs.map (av_ev s0.heap.size kr)).toArray s (.returned (v.map (av_ev s0.heap.size kr))) t := fun t ht _ => ⟨rfl, by rw [ht]; exact hR'⟩
    rcases hk with ⟨rfl, rfl, hrt⟩ | ⟨rfl, x, rfl, hrt⟩ | ⟨rfl, q, rfl, t, hrt, hty⟩
    · exact W.vret B.exec B.bytes (B.returns.trans hrt) hq hl hdg
    · rcases hrt with hrt | ⟨hrt, hx⟩
      · exact W.iret B.exec B.bytes (B.returns.trans hrt) hq hl hdg
      · exact W.zret B.exec B.bytes (B.returns.trans hrt) (av_bool hx).1 hq hl hdg
    · exact W.aret B.exec B.bytes (B.returns.trans hrt) hty (va_rf_or _) hq hl hdg
  have hw := hB p e (headSpec [Cond.code r.2.1 r.2.2.1 r.2.2.2.1 r.2.2.2.2.1] (av_Rm r h h')).room s m (vs.map (av_ev s0.heap.size kr)).toArray below meth c (MQ below (av_Qm s0 D TY kr sc v h') (vs.map (av_ev s0.heap.size kr)).toArray s (h'.1 - h.1) (h'.2.1 - h.2.1) (fun q => s0.heap.size ≤ q)) r h h' h 0 (av_ent r.2.2.2.1 vs) [] v hd C rfl rfl hret hr
  have hw := hw s.heap [] _ hR (fun q hq => by cases hq) (av_entry ha) (Nat.le_refl _) (Nat.le_refl _)
  rw [lg_entry_eq]
  rw [Nat.sub_self, Nat.sub_self] at hw
  exact hw
theorem av_blindM {vs : List av_V} {h : av_H} : FrameBlind (av_Pm s0 D TY kr sc vs h) := fun _ _ _ _ q => q
/-- behind a call, by what the callee's contract says -/
theorem av_back {p : Program} {e : Env} {R : Room} {s : State} {m : MethodId} {args : Array Value} {below : List Frame} {meth : Method} {c : Code} {Q : State → Prop} {nL : Nat} {h0 h h1 : av_H} {pc : Nat} {lv : av_L} {rst : List av_V} {v : Option av_V} {H : Heap} {locs : List Loc} {ls : Array Slot} {st0 : List Value} {vs : Array Value}
    (hr : va_Run p l e R s m args below meth c H locs (h.1 - h0.1) (h.2.1 - h0.2.1) (h1.1 - h.1) (h1.2.1 - h.2.1) (F0 m pc ls st0) (rst.map (av_ev s0.heap.size kr)) (av_Qm s0 D TY kr sc v h1 vs) (fun q => s0.heap.size ≤ q))
    (hg : av_gr h h1) (hl : ∀ q ∈ locs, s0.heap.size ≤ q.base) (hL : av_Lr s0.heap.size kr ls nL lv) (g1 : h0.1 ≤ h.1) (g2 : h0.2.1 ≤ h.2.1) (k : av_W p l e R s m args below meth c Q s0 D TY kr sc nL h0 (pc + 3) lv (v.toList ++ rst) h1) :
    W p l e R s m args below meth c H locs (h.1 - h0.1) (h.2.1 - h0.2.1) Q (F0 m pc ls st0) := by
  intro T hT X
  obtain ⟨v', st₀, t, T', L, e0, X', hL', e1, e2, ⟨hv, hRt⟩, step⟩ := hr T hT X
  have hv : v' = v.map (av_ev s0.heap.size kr) := by
    have := hv
    simpa using this
  subst hv
  have hg1 := hg.1
  have hg2 := hg.2
  have kk := k T'.heap (locs ++ L) ls (by rw [e1]; exact hRt) (fun q hq => by
    rcases List.mem_append.mp hq with hq | hq
    · exact hl q hq
    · exact hL' q hq) hL (by omega) (by omega)
  rw [show h1.1 - h0.1 = h.1 - h0.1 + (h1.1 - h.1) by omega, show h1.2.1 - h0.2.1 = h.2.1 - h0.2.1 + (h1.2.1 - h.2.1) by omega] at kk
  obtain ⟨t2, b1, b2⟩ := kk T' rfl X'
  refine ⟨t2, step t2 ?_, b2⟩
  have e3 : (v.map (av_ev s0.heap.size kr)).toList ++ rst.map (av_ev s0.heap.size kr) = (v.toList ++ rst).map (av_ev s0.heap.size kr) := by
    cases v <;> simp
  rw [e3]
  exact b1
end AVR
end
