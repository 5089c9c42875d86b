/-! ONE STEP: the library's own members, constants -/
section AVB
variable {p : Program} {l : Launch} {e : Env} {R : Room} {s : State} {m : MethodId} {args : Array Value} {below : List Frame} {meth : Method} {c : Code} {Q : State → Prop}
variable {a0 : Array Value} {s0 : State} {D : va_G} {TY : Nat → ClassId} {kr : Nat → Nat} {sc : av_Sr} {own nL : Nat} {cc : ByteArray} {ini : Bool} {h0 hf h h' : av_H} {pc pc' : Nat} {lv lv' : av_L} {st st' : List av_V}

theorem av_cats {z : Nat} {kr : Nat → Nat} (r : List av_V) : ((r.map (av_ev z kr)).map fun v => v.category).sum = (r.map av_cat).sum := by
  rw [List.map_map]
  congr 1
  exact List.map_congr_left (fun v _ => av_ev_cat z kr v)
theorem av_s_aast (C : av_Cx p R s m meth c a0 s0 D TY own nL cc ini h0 hf) (hd : decode cc pc = .ok (.aastore, 1)) (hs : av_aast pc lv st h = some (pc', lv', st', h')) (k : av_W p l e R s m args below meth c Q s0 D TY kr sc nL h0 pc' lv' st' h') : av_W p l e R s m args below meth c Q s0 D TY kr sc nL h0 pc lv st h := by
  intro H locs ls hR hl hL h1 h2
  unfold av_aast at hs
  split at hs
  · next v i o r =>
    split at hs
    · next hc =>
      cases hs
      obtain ⟨⟨ho, hk⟩, hi, hv⟩ := hc
      obtain ⟨hin, hlt⟩ := av_inP hi
      have go : ∀ (kk ci : Nat), (h.2.2.1 o).1 = kk → 30 ≤ kk → kk ∈ [20, 21, 22, 30, 31, 32] → ci < 9 → av_ft kk = .object (av_cn ci) → (∀ q, v = some q → q < h.1 ∧ (h.2.2.1 q).1 = ci) → W p l e R s m args below meth c H locs (h.1 - h0.1) (h.2.1 - h0.2.1) Q (F0 m pc ls ((.inr (.inr (.inl v)) :: .inl i :: .inr (.inr (.inl (some o))) :: st').map (av_ev s0.heap.size kr))) := by
        intro kk ci hk h30 hm hci hft hq
        have hcell := av_arrR hR ho hk h30
        obtain ⟨ka, kra⟩ := av_ka C hm
        rw [hft] at ka kra
        have fin : ∀ (H' : Heap), H'[s0.heap.size + o]? = some ((arrV (TY kk) (h.2.2.1 o).2 (fun j => va_rf ((h.2.2.2.2.2.2.1 o j).map (fun q => s0.heap.size + q)))).setSlot (Int32.ofInt i).toNatClampNeg (va_rf (v.map (fun q => s0.heap.size + q)))) → H'.size = H.size → (∀ q, q ≠ s0.heap.size + o → H'[q]? = H[q]?) → W p l e R s m args below meth c H' (locs ++ [⟨s0.heap.size + o, (Int32.ofInt i).toNatClampNeg⟩]) (h.1 - h0.1) (h.2.1 - h0.2.1) Q (F0 m (pc + 1) ls (st'.map (av_ev s0.heap.size kr))) := by
          intro H' e1 e2 e3
          rw [av_nat] at e1
          exact k H' _ ls (av_R_upd hR e2 e3 rfl rfl rfl (fun k hk => ⟨rfl, rfl, rfl, av_u2_ne hk⟩) (av_at_setR hk h30 e1)) (av_locs hl rfl) hL h1 h2
        cases v with
        | none => exact va_WaastN (C := av_cn ci) C.1 C.2.1 hcell (ka _ _) (fun q => by cases q) (by rw [arrV_size]; exact hin) rfl rfl hd (fun H' e1 e2 e3 => fin H' e1 e2 e3)
        | some q =>
          obtain ⟨hq1, hq2⟩ := hq q rfl
          have hat := hR.2.2.2 q hq1
          unfold av_at at hat
          rw [if_pos (by rw [hq2]; exact hci), hq2] at hat
          obtain ⟨cv, g1, g2, g3, -⟩ := hat
          have hcls := (av_kn C hci).2
          obtain ⟨kA, comp, k1, k2, k3, -⟩ := kra
          have hcomp : comp = D.1 ci := Option.some.inj (k3.symm.trans hcls.1)
          subst hcomp
          obtain ⟨kC, hkC, -⟩ := hcls.2
          exact W.aast C.1 C.2.1 hcell (fun q h => by cases h) (fun h => by cases h) k1 k2 rfl hkC ⟨fun q => hin (Or.inl q), by rw [arrV_size, av_nat]; exact hlt⟩ g1 (fun q h => by rw [g3] at h; cases h) (by rw [g2]; exact hkC) (by rw [g2]; exact va_assign hcls) rfl rfl hd (fun H' e1 e2 e3 => fin H' e1 e2 e3)
      rcases hk with hk | hk
      · refine go 30 1 hk (by omega) (by decide) (by omega) rfl (fun q hq => ?_)
        subst hq
        have := of_decide_eq_true hv
        rw [if_pos hk] at this
        exact this
      · refine go 31 5 hk (by omega) (by decide) (by omega) rfl (fun q hq => ?_)
        subst hq
        have := of_decide_eq_true hv
        rw [if_neg (by omega)] at this
        exact this
    · cases hs
  · cases hs
theorem av_s_objInit {idx : Nat} {v : Nat} {r : List av_V} (C : av_Cx p R s m meth c a0 s0 D TY own nL cc ini h0 hf) (hd : decode cc pc = .ok (.invokespecial idx, 3)) (hlk : Cond.methodLink (av_cn own) idx Lib.objectInit ∈ lw_tbl) (hin : Cond.instanceMethod Lib.objectInit ∈ lw_tbl) (hco : Cond.code Lib.objectInit ⟨#[0xb1]⟩ 1 none ∈ lw_tbl) (hr : (r.map av_cat).sum ≤ 8) (hfr : 1 ≤ R.frames) (hlo : 40 ≤ R.locals) (k : av_W p l e R s m args below meth c Q s0 D TY kr sc nL h0 (pc + 3) lv r h) : av_W p l e R s m args below meth c Q s0 D TY kr sc nL h0 pc lv (.inr (.inr (.inl (some v))) :: r) h :=
  fun H locs ls hR hl hL h1 h2 => W.objInit C.1 C.2.1 C.2.2.2.1 (av_wd C hlk rfl) (av_wd C hin rfl) (av_wd C hco rfl) rfl (hL.1.trans C.2.2.1.symm) rfl hd hfr (by
    have := lv_room (m := m) (pc := pc) (ls := ls) (rest := r.map (av_ev s0.heap.size kr)) (st := r.map (av_ev s0.heap.size kr)) (by rw [av_cats]; exact hr)
    show 2 * 0 + _ + 12 ≤ _
    rw [av_cats]
    omega) (k H locs ls hR hl hL h1 h2)
theorem av_s_max {idx : Nat} {x y : Int} {r : List av_V} (C : av_Cx p R s m meth c a0 s0 D TY own nL cc ini h0 hf) (hd : decode cc pc = .ok (.invokestatic idx, 3)) (hlk : Cond.methodLink (av_cn own) idx Lib.Math.max.name ∈ lw_tbl) (hst : Cond.static Lib.Math.max.name ∈ lw_tbl) (hini : Cond.initialized "java/lang/Math" ∈ lw_tbl) (hco : Cond.code Lib.Math.max.name Lib.Math.max.code 2 (some .int) ∈ lw_tbl) (hr : (r.map av_cat).sum ≤ 8) (hfr : 1 ≤ R.frames) (hlo : 40 ≤ R.locals) (hle : h.1 ≤ hf.1 ∧ h.2.1 ≤ hf.2.1) (k : av_W p l e R s m args below meth c Q s0 D TY kr sc nL h0 (pc + 3) lv (.inl (if av_w x < av_w y then y else x) :: r) h) : av_W p l e R s m args below meth c Q s0 D TY kr sc nL h0 pc lv (.inl y :: .inl x :: r) h := by
  intro H locs ls hR hl hL h1 h2
  have hrm := C.2.2.2.2.2.2.2
  refine va_mmax C.1 C.2.1 (C.2.2.1.trans hL.1.symm) C.2.2.2.1 (av_wd C hlk rfl) (av_wd C hst rfl) (av_wd C hini rfl) (av_wd C hco rfl) hfr (by rw [av_cats]; omega) (by omega) (by omega) hd (lv_topi (fun v hv => ?_))
  have hv : v = Int32.ofInt (if av_w x < av_w y then y else x) := by
    rw [hv]
    by_cases q : av_w x < av_w y
    · rw [if_pos q, if_pos ((av_lt x y).mpr q)]
    · rw [if_neg q, if_neg (fun z => q ((av_lt x y).mp z))]
  subst hv
  exact k H locs ls hR hl hL h1 h2
theorem av_s_min {idx : Nat} {x y : Int} {r : List av_V} (C : av_Cx p R s m meth c a0 s0 D TY own nL cc ini h0 hf) (hd : decode cc pc = .ok (.invokestatic idx, 3)) (hlk : Cond.methodLink (av_cn own) idx Lib.Math.min.name ∈ lw_tbl) (hst : Cond.static Lib.Math.min.name ∈ lw_tbl) (hini : Cond.initialized "java/lang/Math" ∈ lw_tbl) (hco : Cond.code Lib.Math.min.name Lib.Math.min.code 2 (some .int) ∈ lw_tbl) (hr : (r.map av_cat).sum ≤ 8) (hfr : 1 ≤ R.frames) (hlo : 40 ≤ R.locals) (hle : h.1 ≤ hf.1 ∧ h.2.1 ≤ hf.2.1) (k : av_W p l e R s m args below meth c Q s0 D TY kr sc nL h0 (pc + 3) lv (.inl (if av_w y < av_w x then y else x) :: r) h) : av_W p l e R s m args below meth c Q s0 D TY kr sc nL h0 pc lv (.inl y :: .inl x :: r) h := by
  intro H locs ls hR hl hL h1 h2
  have hrm := C.2.2.2.2.2.2.2
  refine va_mmin C.1 C.2.1 (C.2.2.1.trans hL.1.symm) C.2.2.2.1 (av_wd C hlk rfl) (av_wd C hst rfl) (av_wd C hini rfl) (av_wd C hco rfl) hfr (by rw [av_cats]; omega) (by omega) (by omega) hd (lv_topi (fun v hv => ?_))
  have hv : v = Int32.ofInt (if av_w y < av_w x then y else x) := by
    rw [hv]
    by_cases q : av_w y < av_w x
    · rw [if_pos q, if_pos ((av_lt y x).mpr q)]
    · rw [if_neg q, if_neg (fun z => q ((av_lt y x).mp z))]
  subst hv
  exact k H locs ls hR hl hL h1 h2
theorem av_nn (x : Int) (h : 0 ≤ av_w x) : (Int32.ofInt x).toInt = (((av_w x).toNat : Nat) : Int) := by
  rw [av_w_eq]
  omega
/-- the row d behind a copy -/
theorem av_at_cpy {H1 : Heap} {z d sp dp n : Nat} {f : Nat → Int} (hk : (h.2.2.1 d).1 = 20) (hc : H1[z + d]? = some (arrV (TY 20) (h.2.2.1 d).2 (fun j => .int (va_cpy (fun i => Int32.ofInt (f i)) (fun i => Int32.ofInt (h.2.2.2.1 d i)) sp dp n j)))) : av_at z D TY (h.1, h.2.1, h.2.2.1, av_cpy h.2.2.2.1 d sp dp n f, h.2.2.2.2) d H1 := by
  unfold av_at
  dsimp only
  rw [if_neg (by omega), if_pos (by omega), hc, hk]
  congr 2
  funext j
  by_cases q : dp ≤ j ∧ j < dp + n
  · simp [va_cpy, av_cpy, q]
  · simp [va_cpy, av_cpy, q]
theorem av_cpy_ne {A : Nat → Nat → Int} {d sp dp n a : Nat} {f : Nat → Int} (h : a ≠ d) : av_cpy A d sp dp n f a = A a := by
  funext j
  simp [av_cpy, h]
theorem av_nfw : nativeFrameWords "java/lang/System" "arraycopy" 5 = 7 := by decide +kernel
theorem av_s_copy {idx d q : Nat} {n dp sp : Int} {r : List av_V} (C : av_Cx p R s m meth c a0 s0 D TY own nL cc ini h0 hf) (hd : decode cc pc = .ok (.invokestatic idx, 3)) (hlk : Cond.methodLink (av_cn own) idx arraycopyName ∈ lw_tbl) (hna : Cond.native arraycopyName ∈ lw_tbl) (hst : Cond.static arraycopyName ∈ lw_tbl) (hini : Cond.initialized "java/lang/System" ∈ lw_tbl) (hr : (r.map av_cat).sum ≤ 8) (hfr : 1 ≤ R.frames) (hlo : 40 ≤ R.locals)
    (hc : (d < h.1 ∧ (h.2.2.1 d).1 = 20) ∧ (q < h.1 ∧ (h.2.2.1 q).1 = 20) ∧ (0 ≤ av_w n ∧ 0 ≤ av_w dp ∧ 0 ≤ av_w sp) ∧ av_w sp + av_w n ≤ (h.2.2.1 q).2 ∧ av_w dp + av_w n ≤ (h.2.2.1 d).2)
    (k : av_W p l e R s m args below meth c Q s0 D TY kr sc nL h0 (pc + 3) lv r (h.1, h.2.1, h.2.2.1, av_cpy h.2.2.2.1 d (av_w sp).toNat (av_w dp).toNat (av_w n).toNat (h.2.2.2.1 q), h.2.2.2.2)) : av_W p l e R s m args below meth c Q s0 D TY kr sc nL h0 pc lv (.inl n :: .inl dp :: .inr (.inr (.inl (some d))) :: .inl sp :: .inr (.inr (.inl (some q))) :: r) h := by
  intro H locs ls hR hl hL h1 h2
  obtain ⟨c1, c2, ⟨c3, c4, c5⟩, c6, c7⟩ := hc
  have hc0 := av_arrN hR c2.1 c2.2 (by omega) (by omega)
  have hc1 := av_arrN hR c1.1 c1.2 (by omega) (by omega)
  obtain ⟨-, k0, hk0, cm0, hkk0⟩ := (av_ka C (k := 20) (by decide)).1 (h.2.2.1 q).2 (fun j => .int (Int32.ofInt (h.2.2.2.1 q j)))
  intro T hT X
  obtain ⟨vm', X', step⟩ := X.arraycopy C.1 C.2.2.2.1 (av_wd C hlk rfl) (av_wd C hna rfl) (av_wd C hst rfl) (av_wd C hini rfl) (src := s0.heap.size + q) (dst := s0.heap.size + d) (cs := arrV (TY 20) (h.2.2.1 q).2 (fun j => .int (Int32.ofInt (h.2.2.2.1 q j)))) (cd := arrV (TY 20) (h.2.2.1 d).2 (fun j => .int (Int32.ofInt (h.2.2.2.1 d j)))) (srcPos := Int32.ofInt sp) (destPos := Int32.ofInt dp) (n := Int32.ofInt n) (by rw [hT]; exact hc0) (by rw [hT]; exact hc1)
    (fun _ h => by cases h) (fun _ h => by cases h) (fun h => by cases h) (fun h => by cases h) hk0 hk0 hkk0 hkk0 (by simp [refKind, av_ft]) (by rw [av_lt0]; omega) (by rw [av_lt0]; omega) (by rw [av_lt0]; omega)
    (by rw [av_nn sp c5, av_nn n c3, arrV_size]; omega)
    (by rw [av_nn dp c4, av_nn n c3, arrV_size]; omega)
    (fun vm₁ _ i hi => by
      rw [av_nat] at hi
      have e : (arrV (TY 20) (h.2.2.1 q).2 (fun j => .int (Int32.ofInt (h.2.2.2.1 q j)))).slots.getD ((Int32.ofInt sp).toNatClampNeg + i) .null = .int (Int32.ofInt (h.2.2.2.1 q ((Int32.ofInt sp).toNatClampNeg + i))) := by
        rw [Array.getD_eq_getD_getElem?, arrV_read _ _ (by rw [av_nat]; omega)]
        rfl
      refine ⟨?_, ?_⟩
      · rw [e]
        rfl
      · rw [e]
        exact trivial)
    (g := F0 m pc ls (.int (Int32.ofInt n) :: .int (Int32.ofInt dp) :: .ref (s0.heap.size + d) :: .int (Int32.ofInt sp) :: .ref (s0.heap.size + q) :: r.map (av_ev s0.heap.size kr))) rfl (by rw [C.2.2.1]; exact hL.1) (rest := r.map (av_ev s0.heap.size kr)) rfl (by rw [C.2.1]; exact hd) hfr (by show 2 * 0 + _ + (nativeFrameWords "java/lang/System" "arraycopy" 5 + 11) ≤ _; rw [av_cats, av_nfw]; omega)
  have e1 : copied (arrV (TY 20) (h.2.2.1 q).2 (fun j => .int (Int32.ofInt (h.2.2.2.1 q j)))) (arrV (TY 20) (h.2.2.1 d).2 (fun j => .int (Int32.ofInt (h.2.2.2.1 d j)))) (Int32.ofInt sp) (Int32.ofInt dp) (Int32.ofInt n) = arrV (TY 20) (h.2.2.1 d).2 (fun j => .int (va_cpy (fun i => Int32.ofInt (h.2.2.2.1 q i)) (fun i => Int32.ofInt (h.2.2.2.1 d i)) (Int32.ofInt sp).toNatClampNeg (Int32.ofInt dp).toNatClampNeg (Int32.ofInt n).toNatClampNeg j)) :=
    va_copied (fun z => .int z) (TY 20) (TY 20) (fun i => Int32.ofInt (h.2.2.2.1 q i)) (fun i => Int32.ofInt (h.2.2.2.1 d i)) (by rw [av_nat, av_nat]; omega)
  rw [e1, av_nat, av_nat, av_nat] at X' step
  have hdl : s0.heap.size + d < H.size := (Array.getElem?_eq_some_iff.mp hc1).1
  have hR' : av_R s0 D TY sc (h.1, h.2.1, h.2.2.1, av_cpy h.2.2.2.1 d (av_w sp).toNat (av_w dp).toNat (av_w n).toNat (h.2.2.2.1 q), h.2.2.2.2) (H.setIfInBounds (s0.heap.size + d) (arrV (TY 20) (h.2.2.1 d).2 (fun j => .int (va_cpy (fun i => Int32.ofInt (h.2.2.2.1 q i)) (fun i => Int32.ofInt (h.2.2.2.1 d i)) (av_w sp).toNat (av_w dp).toNat (av_w n).toNat j)))) := by
    refine av_R_upd (o := d) hR (by simp) (fun x hx => by simp [Array.getElem?_setIfInBounds, Ne.symm hx]) rfl rfl rfl (fun k hk => ⟨av_cpy_ne hk, rfl, rfl, rfl⟩) (av_at_cpy c1.2 ?_)
    simp [Array.getElem?_setIfInBounds, hdl]
  obtain ⟨t, a1, b1⟩ := k _ _ ls hR' (fun x hx => by
      rcases List.mem_append.mp hx with hx | hx
      · exact hl x hx
      · obtain ⟨y, -, hy⟩ := List.mem_map.mp hx
        rw [← hy]
        exact Nat.le_add_right _ _) hL h1 h2 _ (by rw [← hT]; rfl) X'
  exact ⟨t, step t a1, b1⟩

/-- the plain law, as the start has it -/
def av_Pl (s0 : State) (kr : Nat → Nat) : Prop := va_Z RX7 "PLAIN_LAW" "[I" (.ref (kr 101)) (fun q => s0.heap.size ≤ q) s0 s0.heap ∧ va_T .int (kr 101) 14 (fun j => .int (Int32.ofInt (av_plain j))) (fun q => s0.heap.size ≤ q) s0 s0.heap
theorem av_old {H : Heap} (hR : av_R s0 D TY sc h H) : ∀ a : Nat, a < s0.heap.size → ¬ (fun q => s0.heap.size ≤ q) a → H[a]? = s0.heap[a]? := fun a ha _ => hR.2.1 a ha
theorem av_s_copyP {idx d : Nat} {n dp sp : Int} {r : List av_V} (C : av_Cx p R s m meth c a0 s0 D TY own nL cc ini h0 hf) (hPl : av_Pl s0 kr) (hd : decode cc pc = .ok (.invokestatic idx, 3)) (hlk : Cond.methodLink (av_cn own) idx arraycopyName ∈ lw_tbl) (hna : Cond.native arraycopyName ∈ lw_tbl) (hst : Cond.static arraycopyName ∈ lw_tbl) (hini : Cond.initialized "java/lang/System" ∈ lw_tbl) (hr : (r.map av_cat).sum ≤ 8) (hfr : 1 ≤ R.frames) (hlo : 40 ≤ R.locals)
    (hc : (d < h.1 ∧ (h.2.2.1 d).1 = 20) ∧ (0 ≤ av_w n ∧ 0 ≤ av_w dp ∧ 0 ≤ av_w sp) ∧ av_w sp + av_w n ≤ 14 ∧ av_w dp + av_w n ≤ (h.2.2.1 d).2)
    (k : av_W p l e R s m args below meth c Q s0 D TY kr sc nL h0 (pc + 3) lv r (h.1, h.2.1, h.2.2.1, av_cpy h.2.2.2.1 d (av_w sp).toNat (av_w dp).toNat (av_w n).toNat av_plain, h.2.2.2.2)) : av_W p l e R s m args below meth c Q s0 D TY kr sc nL h0 pc lv (.inl n :: .inl dp :: .inr (.inr (.inl (some d))) :: .inl sp :: .inr (.inr (.inr 101)) :: r) h := by
  intro H locs ls hR hl hL h1 h2
  obtain ⟨c1, ⟨c3, c4, c5⟩, c6, c7⟩ := hc
  obtain ⟨scr, hs1, hs2, hs3, hs4, -, hs5, hs7⟩ := (hPl.2.moved C.2.2.2.2.1.alike).kept (av_old hR)
  have hc1 := av_arrN hR c1.1 c1.2 (by omega) (by omega)
  obtain ⟨hs6, k0, hk0, cm0, hkk0⟩ := hs2
  obtain ⟨-, k1, hk1, cm1, hkk1⟩ := (av_ka C (k := 20) (by decide)).1 (h.2.2.1 d).2 (fun j => .int (Int32.ofInt (h.2.2.2.1 d j)))
  intro T hT X
  obtain ⟨vm', X', step⟩ := X.arraycopy C.1 C.2.2.2.1 (av_wd C hlk rfl) (av_wd C hna rfl) (av_wd C hst rfl) (av_wd C hini rfl) (src := kr 101) (dst := s0.heap.size + d) (cs := scr) (cd := arrV (TY 20) (h.2.2.1 d).2 (fun j => .int (Int32.ofInt (h.2.2.2.1 d j)))) (srcPos := Int32.ofInt sp) (destPos := Int32.ofInt dp) (n := Int32.ofInt n) (by rw [hT]; exact hs1) (by rw [hT]; exact hc1)
    hs6 (fun _ h => by cases h) hs3 (fun h => by cases h) hk0 hk1 hkk0 hkk1 (by simp [refKind, av_ft]) (by rw [av_lt0]; omega) (by rw [av_lt0]; omega) (by rw [av_lt0]; omega)
    (by rw [av_nn sp c5, av_nn n c3]; omega)
    (by rw [av_nn dp c4, av_nn n c3, arrV_size]; omega)
    (fun vm₁ _ i hi => by
      rw [av_nat] at hi
      have e : scr.slots.getD ((Int32.ofInt sp).toNatClampNeg + i) .null = .int (Int32.ofInt (av_plain ((Int32.ofInt sp).toNatClampNeg + i))) := by
        rw [Array.getD_eq_getD_getElem?, hs5 _ (by rw [av_nat]; omega)]
        rfl
      refine ⟨?_, ?_⟩
      · rw [e]
        rfl
      · rw [e]
        exact trivial)
    (g := F0 m pc ls (.int (Int32.ofInt n) :: .int (Int32.ofInt dp) :: .ref (s0.heap.size + d) :: .int (Int32.ofInt sp) :: .ref (kr 101) :: r.map (av_ev s0.heap.size kr))) rfl (by rw [C.2.2.1]; exact hL.1) (rest := r.map (av_ev s0.heap.size kr)) rfl (by rw [C.2.1]; exact hd) hfr (by show 2 * 0 + _ + (nativeFrameWords "java/lang/System" "arraycopy" 5 + 11) ≤ _; rw [av_cats, av_nfw]; omega)
  have e1 : copied scr (arrV (TY 20) (h.2.2.1 d).2 (fun j => .int (Int32.ofInt (h.2.2.2.1 d j)))) (Int32.ofInt sp) (Int32.ofInt dp) (Int32.ofInt n) = arrV (TY 20) (h.2.2.1 d).2 (fun j => .int (va_cpy (fun i => Int32.ofInt (av_plain i)) (fun i => Int32.ofInt (h.2.2.2.1 d i)) (Int32.ofInt sp).toNatClampNeg (Int32.ofInt dp).toNatClampNeg (Int32.ofInt n).toNatClampNeg j)) :=
    va_copiedX (fun z => .int z) scr (TY 20) (fun i => Int32.ofInt (av_plain i)) (fun i => Int32.ofInt (h.2.2.2.1 d i)) hs5 (by rw [av_nat, av_nat]; omega)
  rw [e1, av_nat, av_nat, av_nat] at X' step
  have hdl : s0.heap.size + d < H.size := (Array.getElem?_eq_some_iff.mp hc1).1
  have hR' : av_R s0 D TY sc (h.1, h.2.1, h.2.2.1, av_cpy h.2.2.2.1 d (av_w sp).toNat (av_w dp).toNat (av_w n).toNat av_plain, h.2.2.2.2) (H.setIfInBounds (s0.heap.size + d) (arrV (TY 20) (h.2.2.1 d).2 (fun j => .int (va_cpy (fun i => Int32.ofInt (av_plain i)) (fun i => Int32.ofInt (h.2.2.2.1 d i)) (av_w sp).toNat (av_w dp).toNat (av_w n).toNat j)))) := by
    refine av_R_upd (o := d) hR (by simp) (fun x hx => by simp [Array.getElem?_setIfInBounds, Ne.symm hx]) rfl rfl rfl (fun k hk => ⟨av_cpy_ne hk, rfl, rfl, rfl⟩) (av_at_cpy c1.2 ?_)
    simp [Array.getElem?_setIfInBounds, hdl]
  obtain ⟨t, a1, b1⟩ := k _ _ ls hR' (fun x hx => by
      rcases List.mem_append.mp hx with hx | hx
      · exact hl x hx
      · obtain ⟨y, -, hy⟩ := List.mem_map.mp hx
        rw [← hy]
        exact Nat.le_add_right _ _) hL h1 h2 _ (by rw [← hT]; rfl) X'
  exact ⟨t, step t a1, b1⟩
theorem av_s_gets {idx : Nat} (C : av_Cx p R s m meth c a0 s0 D TY own nL cc ini h0 hf) (hPl : av_Pl s0 kr) (hd : decode cc pc = .ok (.getstatic idx, 3)) (hlk : Cond.fieldLink (av_cn own) idx RX7 "PLAIN_LAW" "[I" ∈ lw_tbl ∨ ∃ host, Cond.fieldLinkNest (av_cn own) idx RX7 "PLAIN_LAW" "[I" host ∈ lw_tbl) (k : av_W p l e R s m args below meth c Q s0 D TY kr sc nL h0 (pc + 3) lv (.inr (.inr (.inr 101)) :: st) h) : av_W p l e R s m args below meth c Q s0 D TY kr sc nL h0 pc lv st h := by
  intro H locs ls hR hl hL h1 h2
  obtain ⟨cf, kf, fi, f, a, cell, g1, g2, g3, g4, g5, g6, g7, g8⟩ := (hPl.1.moved C.2.2.2.2.1.alike).kept (av_old hR)
  rcases hlk with hlk | ⟨host, hlk⟩
  · exact W.gets C.1 C.2.1 C.2.2.2.1 (av_wd C hlk rfl) g1 g2 g3 g4 g5 (fun e => by rw [e] at g6; cases g6) g7 rfl hd (k H locs ls hR hl hL h1 h2)
  · exact va_WgetsN C.1 C.2.1 C.2.2.2.1 (av_wdF C hlk) g1 g2 g3 g4 g5 (fun e => by rw [e] at g6; cases g6) g7 rfl hd (k H locs ls hR hl hL h1 h2)
theorem av_s_ldc {idx : Nat} {v : Int} (C : av_Cx p R s m meth c a0 s0 D TY own nL cc ini h0 hf) (hd : decode cc pc = .ok (.ldc idx, 2)) (hc : Cond.constant (av_cn own) idx (Int32.ofInt v) ∈ lw_tbl) (k : av_W p l e R s m args below meth c Q s0 D TY kr sc nL h0 (pc + 2) lv (.inl v :: st) h) : av_W p l e R s m args below meth c Q s0 D TY kr sc nL h0 pc lv st h :=
  fun H locs ls hR hl hL h1 h2 => lv_ldc C.1 C.2.1 C.2.2.2.1 (av_wd C hc rfl) hd (k H locs ls hR hl hL h1 h2)
theorem av_s_ldcw {idx : Nat} {v : Int} (C : av_Cx p R s m meth c a0 s0 D TY own nL cc ini h0 hf) (hd : decode cc pc = .ok (.ldc_w idx, 3)) (hc : Cond.constant (av_cn own) idx (Int32.ofInt v) ∈ lw_tbl) (k : av_W p l e R s m args below meth c Q s0 D TY kr sc nL h0 (pc + 3) lv (.inl v :: st) h) : av_W p l e R s m args below meth c Q s0 D TY kr sc nL h0 pc lv st h :=
  fun H locs ls hR hl hL h1 h2 => lv_ldcw C.1 C.2.1 C.2.2.2.1 (av_wd C hc rfl) hd (k H locs ls hR hl hL h1 h2)
theorem av_s_ldc2 {idx : Nat} {v : Int} (C : av_Cx p R s m meth c a0 s0 D TY own nL cc ini h0 hf) (hd : decode cc pc = .ok (.ldc2_w idx, 3)) (hc : Cond.constantLong (av_cn own) idx (Int64.ofInt v) ∈ lw_tbl) (k : av_W p l e R s m args below meth c Q s0 D TY kr sc nL h0 (pc + 3) lv (.inr (.inl v) :: st) h) : av_W p l e R s m args below meth c Q s0 D TY kr sc nL h0 pc lv st h :=
  fun H locs ls hR hl hL h1 h2 => lv_ldc2 C.1 C.2.1 C.2.2.2.1 (av_wd C hc rfl) hd (k H locs ls hR hl hL h1 h2)
theorem av_s_ldcS {idx q : Nat} {tx : String} (C : av_Cx p R s m meth c a0 s0 D TY own nL cc ini h0 hf) (hd : decode cc pc = .ok (.ldc idx, 2)) (hc : vk_R (av_cn own) idx tx (kr q) s0) (k : av_W p l e R s m args below meth c Q s0 D TY kr sc nL h0 (pc + 2) lv (.inr (.inr (.inr q)) :: st) h) : av_W p l e R s m args below meth c Q s0 D TY kr sc nL h0 pc lv st h :=
  fun H locs ls hR hl hL h1 h2 => va_ldcS C.1 C.2.1 C.2.2.2.1 (hc.warm C.2.2.2.2.1) hd (k H locs ls hR hl hL h1 h2)
theorem av_s_cast {idx o : Nat} {r : List av_V} (C : av_Cx p R s m meth c a0 s0 D TY own nL cc ini h0 hf) (hd : decode cc pc = .ok (.checkcast idx, 3)) (hlk : Cond.classLink (av_cn own) idx "[I" ∈ lw_tbl) (ho : o < h.1 ∧ (h.2.2.1 o).1 = 20) (k : av_W p l e R s m args below meth c Q s0 D TY kr sc nL h0 (pc + 3) lv (.inr (.inr (.inl (some o))) :: r) h) : av_W p l e R s m args below meth c Q s0 D TY kr sc nL h0 pc lv (.inr (.inr (.inl (some o))) :: r) h := by
  intro H locs ls hR hl hL h1 h2
  have hcell := av_arrN hR ho.1 ho.2 (by omega) (by omega)
  exact va_castE C.1 C.2.1 C.2.2.2.1 (av_wd C hlk rfl) ⟨_, hcell, rfl, av_ra C (k := 20) (by decide)⟩ hd (k H locs ls hR hl hL h1 h2)
theorem av_s_clone {idx o : Nat} {r : List av_V} (C : av_Cx p R s m meth c a0 s0 D TY own nL cc ini h0 hf) (hd : decode cc pc = .ok (.invokevirtual idx, 3)) (hlk : Cond.methodLink (av_cn own) idx ⟨"[I", "clone", "()Ljava/lang/Object;"⟩ ∈ lw_tbl) (hsm : Cond.sameMethod "[I" "java/lang/Object" "clone" "()Ljava/lang/Object;" ∈ lw_tbl) (hna : Cond.native ⟨"java/lang/Object", "clone", "()Ljava/lang/Object;"⟩ ∈ lw_tbl) (hin : Cond.instanceMethod ⟨"java/lang/Object", "clone", "()Ljava/lang/Object;"⟩ ∈ lw_tbl)
    (hse : Cond.selects "[I" ⟨"[I", "clone", "()Ljava/lang/Object;"⟩ ⟨"java/lang/Object", "clone", "()Ljava/lang/Object;"⟩ ∈ lw_tbl) (hca : Cond.castable "[I" "java/lang/Cloneable" ∈ lw_tbl) (ho : o < h.1 ∧ (h.2.2.1 o).1 = 20) (hr : (r.map av_cat).sum ≤ 8) (hfr : 1 ≤ R.frames) (hlo : 40 ≤ R.locals) (hle : (av_newN 20 (h.2.2.1 o).2 (h.2.2.2.1 o) h).1 ≤ hf.1 ∧ (av_newN 20 (h.2.2.1 o).2 (h.2.2.2.1 o) h).2.1 ≤ hf.2.1)
    (k : av_W p l e R s m args below meth c Q s0 D TY kr sc nL h0 (pc + 3) lv (.inr (.inr (.inl (some h.1))) :: r) (av_newN 20 (h.2.2.1 o).2 (h.2.2.2.1 o) h)) : av_W p l e R s m args below meth c Q s0 D TY kr sc nL h0 pc lv (.inr (.inr (.inl (some o))) :: r) h := by
  intro H locs ls hR hl hL h1 h2
  simp only [av_newN] at hle
  have hroom : h.1 - h0.1 + 1 ≤ R.cells ∧ h.2.1 - h0.2.1 + (h.2.2.1 o).2 ≤ R.slots := by
    have := C.2.2.2.2.2.2.2
    omega
  have hcell := av_arrN hR ho.1 ho.2 (by omega) (by omega)
  have hnm := av_ra C (k := 20) (by decide)
  have hK : va_K D [] [(TY 20, .int)] s := ⟨fun c q hq => by simp at hq, fun k q hq => by
    rcases k with _ | k
    · cases hq
      exact av_ka C (k := 20) (by decide)
    · simp at hq⟩
  have hsz := hR.1
  obtain ⟨c0, t0', f1, f2, f3⟩ := Cond.castable_spec (va_Nw.use (A := args) rfl (va_Nw.warmC C.2.2.2.2.1 (va_Nw.of rfl (C.2.2.2.2.2.1.1 _ hca))))
  cases hnm.symm.trans f1
  obtain ⟨-, kS, hkS, compS, hkindS⟩ := (av_ka C (k := 20) (by decide)).1 0 (fun _ => .null)
  intro T hT X
  obtain ⟨-, kA, hkA, comp, hkind⟩ := State.isArrayOf_alike X.warmed.alike ((av_ka C (k := 20) (by decide)).1 0 (fun _ => .null))
  have hcellT : T.heap[s0.heap.size + o]? = some (arrV (TY 20) (h.2.2.1 o).2 (fun j => .int (Int32.ofInt (h.2.2.2.1 o j)))) := by rw [hT]; exact hcell
  obtain ⟨vm', X', st'⟩ := X.cloneArray C.1 C.2.2.2.1 (av_wd C hlk rfl) (av_wd C hsm rfl) (av_wd C hna rfl) (av_wd C hin rfl) (av_wd C hse rfl) (a := s0.heap.size + o) (cell := arrV (TY 20) (h.2.2.1 o).2 (fun j => .int (Int32.ofInt (h.2.2.2.1 o j)))) hcellT (fun k h => by cases h) (fun h => by cases h) hnm f2 f3
    (fun i v hv => by
      have hk' : T.vm.classes[TY 20]? = some kA := hkA
      have hft : fits .int v = true := va_fit (fun i _ => rfl) i v hv
      simpa [State.fitsSlot, State.slotType?, arrV, hk', hkind, av_ft] using hft)
    (g := F0 m pc ls (.ref (s0.heap.size + o) :: r.map (av_ev s0.heap.size kr))) rfl (hL.1.trans C.2.2.1.symm) rfl (by rw [C.2.1]; exact hd) hfr (by show 2 * 0 + _ + 14 ≤ _; rw [av_cats]; omega) hroom.1 (by rw [arrV_size]; exact hroom.2) (hloader := Vm.clonesLoader_of_array hkS hkindS)
  have hcE : ({ cls := (arrV (TY 20) (h.2.2.1 o).2 (fun j => .int (Int32.ofInt (h.2.2.2.1 o j)))).cls, slots := (arrV (TY 20) (h.2.2.1 o).2 (fun j => .int (Int32.ofInt (h.2.2.2.1 o j)))).slots } : Cell) = arrV (TY 20) (h.2.2.1 o).2 (fun j => .int (Int32.ofInt (h.2.2.2.1 o j))) := rfl
  rw [hcE, arrV_size] at X'
  have hR' : av_R s0 D TY sc (av_newN 20 (h.2.2.1 o).2 (h.2.2.2.1 o) h) (H.push (arrV (TY 20) (h.2.2.1 o).2 (fun j => .int (Int32.ofInt (h.2.2.2.1 o j))))) := by
    refine av_R_new hR (Array.size_push _) (fun q hq => by rw [Array.getElem?_push, if_neg (Nat.ne_of_lt hq)]) rfl rfl (fun q hq => ⟨av_u1_ne hq, av_u1_ne hq, rfl, rfl, rfl⟩) ?_
    unfold av_at
    simp only [av_newN, av_u1_self]
    rw [if_neg (by omega), if_pos (by omega), ← hsz, Array.getElem?_push_size]
  have kk := k _ locs ls hR' hl hL (by simp only [av_newN]; omega) (by simp only [av_newN]; omega)
  have g1 : (av_newN 20 (h.2.2.1 o).2 (h.2.2.2.1 o) h).1 - h0.1 = h.1 - h0.1 + 1 := by simp only [av_newN]; omega
  have g2 : (av_newN 20 (h.2.2.1 o).2 (h.2.2.2.1 o) h).2.1 - h0.2.1 = h.2.1 - h0.2.1 + (h.2.2.1 o).2 := by simp only [av_newN]; omega
  rw [g1, g2] at kk
  obtain ⟨t, b1, b2⟩ := kk ((T.setVm vm').pushCell (arrV (TY 20) (h.2.2.1 o).2 (fun j => .int (Int32.ofInt (h.2.2.2.1 o j))))) (by rw [← hT]; rfl) X'
  refine ⟨t, st' t ?_, b2⟩
  rw [hcE, hT, hsz]
  exact b1
end AVB
