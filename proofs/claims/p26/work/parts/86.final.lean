/-! THE LAW FROM ITS ENTRY -/
theorem av_wp_ck {sc : av_Sr} {cd : List (Nat × av_E)} {pc : Nat} {lv : av_L} {st : List av_V} {h : av_H} {Q : Option av_V → av_H → Prop} (x : av_E) (mL : Nat) (cdj : List (Nat × av_E)) (vs r : List av_V) (lv' : av_L) (hx : cd.lookup pc = some x) (hk : av_kd x = 2) (hM : av_PP x.2.2.1 = some (mL, cdj)) (hp : av_pop x st h = some (vs, r)) (hl : (av_args vs).length ≤ mL) (he : av_ent mL vs = lv')
    (hc : av_wp none cdj 0 lv' [] h (fun v h' => av_wp sc cd (pc + 3) lv (v.toList ++ r) h' Q)) : av_wp sc cd pc lv st h Q := by
  subst he
  exact av_wp_call hx hk hM (fun _ => hp) hl hc (fun v h' hq => hq)
set_option maxRecDepth 100000 in
set_option maxHeartbeats 8000000 in
theorem fin_wp {L : Nat} {f : Nat → Int} (hf : ∀ j, -2147483648 ≤ f j ∧ f j ≤ 2147483647) (hL : L ≤ 3072) : av_wp (some (L, f)) cd_L 0 (av_ent 4 [.inr (.inr (.inr 100))]) [] av_h0 (fun v h' => v = some (.inl 1) ∧ h'.1 ≤ 600000 ∧ h'.2.1 ≤ 7302250) := by
  show av_wp (some (L, f)) cd_L 0 [some (.inr (.inr (.inr 100))), none, none, none] [] av_h0 (fun v h' => v = some (.inl 1) ∧ h'.1 ≤ 600000 ∧ h'.2.1 ≤ 7302250)
  refine av_wp_seq 2 (pc' := 4) (lv' := [some (.inr (.inr (.inr 100))), none, none, none]) (st' := [.inr (.inr (.inl (some (0)))), .inr (.inr (.inl (some (0))))]) (h' := av_newO 7 9 av_h0) rfl ?_
  refine av_wp_ck (av_qc (.invokespecial 9) 93 0 1 7) 1 cd_93 [.inr (.inr (.inl (some (0))))] [.inr (.inr (.inl (some (0))))] [some (.inr (.inr (.inl (some (0)))))] rfl rfl pp_93 rfl (Nat.le_of_ble_eq_true rfl) rfl ?_
  refine av_wp_cl 4000 _ _ av_h1_ok ?_
  show av_wp (some (L, f)) cd_L 7 [some (.inr (.inr (.inr 100))), none, none, none] [.inr (.inr (.inl (some (0))))] av_h1 (fun v h' => v = some (.inl 1) ∧ h'.1 ≤ 600000 ∧ h'.2.1 ≤ 7302250)
  refine av_wp_seq 3 (pc' := 12) (lv' := [some (.inr (.inr (.inr 100))), some (.inr (.inr (.inl (some (0))))), none, none]) (st' := [.inr (.inr (.inl (some (77)))), .inr (.inr (.inl (some (77))))]) (h' := av_newO 8 63 av_h1) rfl ?_
  refine av_wp_ck (av_qc (.invokespecial 12) 126 0 1 8) 1 cd_126 [.inr (.inr (.inl (some (77))))] [.inr (.inr (.inl (some (77))))] [some (.inr (.inr (.inl (some (77)))))] rfl rfl pp_126 rfl (Nat.le_of_ble_eq_true rfl) rfl ?_
  refine av_wp_cl 4000 _ _ av_h3_ok ?_
  show av_wp (some (L, f)) cd_L 15 [some (.inr (.inr (.inr 100))), some (.inr (.inr (.inl (some (0))))), none, none] [.inr (.inr (.inl (some (77))))] av_h3 (fun v h' => v = some (.inl 1) ∧ h'.1 ≤ 600000 ∧ h'.2.1 ≤ 7302250)
  refine av_wp_seq 3 (pc' := 18) (lv' := [some (.inr (.inr (.inr 100))), some (.inr (.inr (.inl (some (0))))), some (.inr (.inr (.inl (some (77))))), some (.inl (((6 * 0 : Nat) : Int)))]) (st' := []) (h' := av_h3) rfl ?_
  exact lo_all hf hL 600 0 av_h3 rfl h3_BX (by omega) (by rw [h3_n.1]; omega) (by have := h3_n.2; omega)
theorem whole_start {p : Program} {e : Env} {s : State} {m : MethodId} {below : List Frame} {meth : Method} {c : Code} (l : Launch) {b L : Nat} {xs : Nat → Int32} (hL : L ≤ 3072) (C0 : lw_At p s m meth c b L xs) : W p l e room_1 s m #[Value.ref b] below meth c s.heap [] 0 0 (lw_Z below #[Value.ref b] s) (entryFrame m ([Value.ref b] : List Value).toArray 4) := by
  have hb : ∀ j, -2147483648 ≤ (xs j).toInt ∧ (xs j).toInt ≤ 2147483647 := fun j => ⟨Int32.le_toInt (xs j), Int.lt_add_one_iff.mp (Int32.toInt_lt (xs j))⟩
  obtain ⟨n, v, hf, hr, hv, h1, h2⟩ := fin_wp (f := fun j => (xs j).toInt) hb hL (fun k hk => absurd rfl hk)
  subst hv
  exact whole_of l (by omega) C0 n hf hr h1 h2
set_option maxHeartbeats 4000000 in
theorem lw_walk (l : Launch) (b : Addr) (xs : List Int32) : MetFree l x (headSpec (Jvm.Cond.code x code maxLocals ret :: tables_1) room_1) (lw_P b xs) (fun _ _ _ _ _ => True) lw_Q := by
  refine MetFree.of_bodyS (code := code) (maxLocals := maxLocals) (ret := ret) (by decide) ?_ ?_
  · intro args s m h hn
    obtain ⟨meth, c, h1, h2, h3, h4, h5, h6, -, -⟩ := Cond.code_spec hn (atoms_spec (ws := Jvm.Cond.code x code maxLocals ret :: tables_1) h _ List.mem_cons_self)
    exact ⟨meth, c, h1, h2, h3, h4, h5, h6⟩
  · intro p e s m args below meth c s₁ B hml0 hP _
    obtain ⟨rfl, hx, hbd, hgv⟩ := hP
    obtain ⟨scr, harrAt, hlist, hof, hsmall⟩ := hx
    obtain ⟨hcb, hkn, -, -⟩ := State.arrayAt?_spec harrAt
    have hown : s.vm.findClass R_law = some m.cls := findClass_of_methodNamed B.named
    have hts0 : ∀ c ∈ (Jvm.Cond.code x code maxLocals ret :: tables_1), c.before #[Value.ref b] s = true := atoms_spec (ws := Jvm.Cond.code x code maxLocals ret :: tables_1) B.pre
    have hts : ∀ w ∈ lw_tbl, w.before #[Value.ref b] s = true := k2_hts_sels lw_privs (fun w hw => hts0 w (List.mem_cons_of_mem _ hw)) lw_privs_ok
    have hml : c.maxLocals = 4 := B.maxLocals_eq (hts0 _ List.mem_cons_self)
    have X₀ : Stand p l e room_1 s m #[Value.ref b] below meth c s₁ [] 0 0 := Stand.of_body B
    have hh0 : s₁.heap = s.heap := by rw [B.state]; rfl
    have hsz : scr.slots.size = xs.length := by rw [← Array.length_toList, hlist, List.length_map]
    have hval : ∀ j : Nat, j < xs.length → scr.slots[j]? = some (.int (xs.getD j 0)) := fun j hj => by
      rw [← Array.getElem?_toList, hlist]
      simp [hj]
    have hbl : b < s.heap.size := (Array.getElem?_eq_some_iff.mp hcb).1
    have hX : va_X b xs.length (fun j => xs.getD j 0) s s.heap := ⟨scr, hcb, hof, hkn, hsz, hval⟩
    have K : W p l e room_1 s m #[Value.ref b] below meth c s₁.heap [] 0 0 (lw_Z below #[Value.ref b] s) (entryFrame m ([Value.ref b] : List Value).toArray 4) := by
      rw [hh0]
      exact whole_start l hbd ⟨B.exec, B.bytes, B.returns, hml, hown, hts, hX, hbl, B.notSynchronized, hgv⟩
    obtain ⟨t, a1, o, b1, b2, b3⟩ := K s₁ rfl X₀
    exact ⟨t, o, a1, b1, b2, b3⟩
theorem lw_pre_spec {args : Array Value} {s : State} (h : (Jvm.Cond.and given_1 narrow_1).before args s = true) (hr : rest_1_c.before args s = true) : ∃ (b : Addr) (xs : List Int32), lw_P b xs args s := by
  have hs := flat_of_before _ h
  have hq := flat_of_before _ hr
  have hc : (Cond.count 1).before args s = true := hs _ (by decide +kernel)
  have harr : (Cond.arrayOf (.arg 0) .int).before args s = true := hs _ (by decide +kernel)
  have hle : (Cond.le (.length (.arg 0)) (.int 3072)).before args s = true := hs _ (by decide +kernel)
  have hlen : (Cond.isInt (.length (.arg 0))).before args s = true := hq _ (by decide +kernel)
  have hall : (Cond.all (.arg 0) (.isInt (.elem (.arg 0) (.index 0)))).before args s = true := hq _ (by decide +kernel)
  obtain ⟨b, xs, hb, hx⟩ := State.ints_of_pre rfl harr hlen hall
  have hsm : xs.length < 2 ^ 31 := hx.choose_spec.2.2.2
  have hev : (Term.length (.arg 0)).eval args s none [] s = some (.int xs.length.toInt32) := hx.length_eval hb
  have hv := Cond.le_ints hev (show (Term.int 3072).eval args s none [] s = some (.int 3072) from rfl)
  have hd : xs.length.toInt32 ≤ 3072 := by
    simpa [Cond.before, Cond.holds, hv] using hle
  have hN : xs.length ≤ 3072 := (Int32.ofNat_le_ofNat hsm (by decide)).mp (show Int32.ofNat xs.length ≤ Int32.ofNat 3072 from hd)
  exact ⟨b, xs, Cond.one_arg hc (show args[0]? = some (.ref b) from hb), hx, hN, h⟩
theorem lw_comes (l : Launch) : Comes l x (Jvm.Cond.code x code maxLocals ret :: tables_1) room_1 (fun tb e args s => Calls_1 tb e args s ∧ rest_1 tb e args s ∧ Pre_1 tb e args s)
    (fun _ _ args s o t => lw_Q args s o t) := by
  intro p e ha hc hk s m args below hf hfit hheap happ hpre
  obtain ⟨b, xs, hP⟩ := lw_pre_spec hpre.2.2 hpre.2.1
  obtain ⟨k, o, h1, h2, h3, hQ⟩ := lw_walk l b xs p e ha hc hk s m args below hf ((Spec.applies_iff_loose hf).mp happ).1 hP trivial
  exact ⟨k, o, h1, h2, h3, hQ⟩
theorem lw_frame {s t : State} {o : Outcome} {args : Array Value} (h : Framed s o t [] 600000 7302250) :
    Framed s o t (fieldLocs frame_1_writes args s ++ arrayLocs frame_1_arrays args s ++ staticLocs frame_1_statics s) 600000 7302250 := h
theorem lw_limb (L : Cond) (hL : ∀ (args : Array Value) (s t : State), L.after args s (.returned (some (.int 1))) t = true) :
    ArmFor flags0 classFile x code maxLocals ret World_1 tables_1 room_1 Calls_1 rest_1 Pre_1
      (fun tb e a s o t => postC L tb e a s o t ∧ Framed s o t (fieldLocs frame_1_writes a s ++ arrayLocs frame_1_arrays a s ++ staticLocs frame_1_statics s) 600000 7302250) := by
  intro l _ _ _ p e ha hc hk s m args below hf hfit hheap happ hpre
  obtain ⟨k, o, h1, h2, h3, rfl, hF⟩ := lw_comes l p e ha hc hk s m args below hf hfit hheap happ hpre
  exact ⟨k, _, h1, h2, h3, hL args s _, lw_frame hF⟩
theorem i_vc : Claimed_1_1 ∧ Claimed_1_2 := ⟨lw_limb limb_1_1 (fun args s t => by simp [limb_1_1, Cond.after, Cond.holds, Cond.value]), lw_limb limb_1_2 (fun args s t => Cond.after_iff.mpr (by
  first | (rw [show limb_1_2 = Cond.eq .result (.int 1) from rfl, Cond.eq_ints (x := 1) (y := 1) rfl rfl]; simp; done) | (simp [limb_1_2, Cond.value, Term.eval]; done)))⟩
