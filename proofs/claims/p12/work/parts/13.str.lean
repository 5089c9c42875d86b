/-! THE LITERALS: length() and charAt(int) of a String that the class file holds -/
def av_Str (s0 : State) (kr ad : Nat → Nat) : Prop :=
  (∀ k : Nat, k < 20 → va_O "java/lang/String" (kr k) (fun q => s0.heap.size ≤ q) s0 s0.heap ∧ va_OF "java/lang/String" "coder" "B" (.int 0) (kr k) (fun q => s0.heap.size ≤ q) s0 s0.heap ∧ va_OF "java/lang/String" "value" "[B" (.ref (ad k)) (kr k) (fun q => s0.heap.size ≤ q) s0 s0.heap ∧ va_T .byte (ad k) (av_lit k).length (fun j => .int (Int32.ofInt ((av_lit k).getD j 0))) (fun q => s0.heap.size ≤ q) s0 s0.heap) ∧
  va_Z "java/lang/String" "COMPACT_STRINGS" "Z" (.int 1) (fun q => s0.heap.size ≤ q) s0 s0.heap ∧ va_Zq "jdk/internal/util/Preconditions" "SIOOBE_FORMATTER" "Ljava/util/function/BiFunction;" (fun q => s0.heap.size ≤ q) s0 s0.heap
theorem av_ascii : ∀ k, k < 20 → ((av_lit k).length < 2 ^ 31 ∧ ∀ j, j < (av_lit k).length → Int32.ofInt ((av_lit k).getD j 0) &&& 255 = Int32.ofInt ((av_lit k).getD j 0)) := by decide +kernel
abbrev sm_c_pre : ByteArray := prog_19_method_11_code
abbrev sm_y_pre : MethodName := ⟨"jdk/internal/util/Preconditions", "checkIndex", "(IILjava/util/function/BiFunction;)I"⟩
abbrev sm_w_pre : List Cond := [Cond.code sm_y_pre sm_c_pre 3 (some .int)]
abbrev sm_c_ck : ByteArray := prog_14_method_155_code
abbrev sm_y_ck : MethodName := ⟨"java/lang/String", "checkIndex", "(II)V"⟩
abbrev sm_w_ck : List Cond := [Cond.code sm_y_ck sm_c_ck 2 none]
abbrev sm_c_l1 : ByteArray := prog_15_method_2_code
abbrev sm_y_l1 : MethodName := ⟨"java/lang/StringLatin1", "charAt", "([BI)C"⟩
abbrev sm_w_l1 : List Cond := [Cond.code sm_y_l1 sm_c_l1 2 (some .char)]
abbrev sm_c_lat : ByteArray := prog_14_method_154_code
abbrev sm_y_lat : MethodName := ⟨"java/lang/String", "isLatin1", "()Z"⟩
abbrev sm_w_lat : List Cond := [Cond.code sm_y_lat sm_c_lat 1 (some .boolean)]
abbrev sm_c_cod : ByteArray := prog_14_method_152_code
abbrev sm_y_cod : MethodName := ⟨"java/lang/String", "coder", "()B"⟩
abbrev sm_w_cod : List Cond := [Cond.code sm_y_cod sm_c_cod 1 (some .byte)]
abbrev sm_c_len : ByteArray := prog_14_method_54_code
abbrev sm_y_len : MethodName := ⟨"java/lang/String", "length", "()I"⟩
abbrev sm_w_len : List Cond := [Cond.code sm_y_len sm_c_len 1 (some .int)]
abbrev sm_c_chr : ByteArray := prog_14_method_56_code
abbrev sm_y_chr : MethodName := ⟨"java/lang/String", "charAt", "(I)C"⟩
abbrev sm_w_chr : List Cond := [Cond.code sm_y_chr sm_c_chr 2 (some .char)]
theorem sm_d_pre_0 : decode sm_c_pre 0 = .ok (.iload_n 0, 1) := by decide +kernel
theorem sm_d_pre_1 : decode sm_c_pre 1 = .ok (.ifCond .lt 8, 3) := by decide +kernel
theorem sm_d_pre_4 : decode sm_c_pre 4 = .ok (.iload_n 0, 1) := by decide +kernel
theorem sm_d_pre_5 : decode sm_c_pre 5 = .ok (.iload_n 1, 1) := by decide +kernel
theorem sm_d_pre_6 : decode sm_c_pre 6 = .ok (.if_icmp .lt 10, 3) := by decide +kernel
theorem sm_d_pre_9 : decode sm_c_pre 9 = .ok (.aload_n 2, 1) := by decide +kernel
theorem sm_d_pre_10 : decode sm_c_pre 10 = .ok (.iload_n 0, 1) := by decide +kernel
theorem sm_d_pre_11 : decode sm_c_pre 11 = .ok (.iload_n 1, 1) := by decide +kernel
theorem sm_d_pre_12 : decode sm_c_pre 12 = .ok (.invokestatic 95, 3) := by decide +kernel
theorem sm_d_pre_15 : decode sm_c_pre 15 = .ok (.athrow, 1) := by decide +kernel
theorem sm_d_pre_16 : decode sm_c_pre 16 = .ok (.iload_n 0, 1) := by decide +kernel
theorem sm_d_pre_17 : decode sm_c_pre 17 = .ok (.ireturn, 1) := by decide +kernel
theorem sm_d_ck_0 : decode sm_c_ck 0 = .ok (.iload_n 0, 1) := by decide +kernel
theorem sm_d_ck_1 : decode sm_c_ck 1 = .ok (.iload_n 1, 1) := by decide +kernel
theorem sm_d_ck_2 : decode sm_c_ck 2 = .ok (.getstatic 1053, 3) := by decide +kernel
theorem sm_d_ck_5 : decode sm_c_ck 5 = .ok (.invokestatic 1059, 3) := by decide +kernel
theorem sm_d_ck_8 : decode sm_c_ck 8 = .ok (.pop, 1) := by decide +kernel
theorem sm_d_ck_9 : decode sm_c_ck 9 = .ok (.return_, 1) := by decide +kernel
theorem sm_d_l1_0 : decode sm_c_l1 0 = .ok (.iload_n 1, 1) := by decide +kernel
theorem sm_d_l1_1 : decode sm_c_l1 1 = .ok (.aload_n 0, 1) := by decide +kernel
theorem sm_d_l1_2 : decode sm_c_l1 2 = .ok (.arraylength, 1) := by decide +kernel
theorem sm_d_l1_3 : decode sm_c_l1 3 = .ok (.invokestatic 9, 3) := by decide +kernel
theorem sm_d_l1_6 : decode sm_c_l1 6 = .ok (.aload_n 0, 1) := by decide +kernel
theorem sm_d_l1_7 : decode sm_c_l1 7 = .ok (.iload_n 1, 1) := by decide +kernel
theorem sm_d_l1_8 : decode sm_c_l1 8 = .ok (.baload, 1) := by decide +kernel
theorem sm_d_l1_9 : decode sm_c_l1 9 = .ok (.sipush 255, 3) := by decide +kernel
theorem sm_d_l1_12 : decode sm_c_l1 12 = .ok (.iand, 1) := by decide +kernel
theorem sm_d_l1_13 : decode sm_c_l1 13 = .ok (.i2c, 1) := by decide +kernel
theorem sm_d_l1_14 : decode sm_c_l1 14 = .ok (.ireturn, 1) := by decide +kernel
theorem sm_d_lat_0 : decode sm_c_lat 0 = .ok (.getstatic 38, 3) := by decide +kernel
theorem sm_d_lat_3 : decode sm_c_lat 3 = .ok (.ifCond .eq 14, 3) := by decide +kernel
theorem sm_d_lat_6 : decode sm_c_lat 6 = .ok (.aload_n 0, 1) := by decide +kernel
theorem sm_d_lat_7 : decode sm_c_lat 7 = .ok (.getfield 15, 3) := by decide +kernel
theorem sm_d_lat_10 : decode sm_c_lat 10 = .ok (.ifCond .ne 7, 3) := by decide +kernel
theorem sm_d_lat_13 : decode sm_c_lat 13 = .ok (.iconst 1, 1) := by decide +kernel
theorem sm_d_lat_14 : decode sm_c_lat 14 = .ok (.goto 4, 3) := by decide +kernel
theorem sm_d_lat_17 : decode sm_c_lat 17 = .ok (.iconst 0, 1) := by decide +kernel
theorem sm_d_lat_18 : decode sm_c_lat 18 = .ok (.ireturn, 1) := by decide +kernel
theorem sm_d_cod_0 : decode sm_c_cod 0 = .ok (.getstatic 38, 3) := by decide +kernel
theorem sm_d_cod_3 : decode sm_c_cod 3 = .ok (.ifCond .eq 10, 3) := by decide +kernel
theorem sm_d_cod_6 : decode sm_c_cod 6 = .ok (.aload_n 0, 1) := by decide +kernel
theorem sm_d_cod_7 : decode sm_c_cod 7 = .ok (.getfield 15, 3) := by decide +kernel
theorem sm_d_cod_10 : decode sm_c_cod 10 = .ok (.goto 4, 3) := by decide +kernel
theorem sm_d_cod_13 : decode sm_c_cod 13 = .ok (.iconst 1, 1) := by decide +kernel
theorem sm_d_cod_14 : decode sm_c_cod 14 = .ok (.ireturn, 1) := by decide +kernel
theorem sm_d_len_0 : decode sm_c_len 0 = .ok (.aload_n 0, 1) := by decide +kernel
theorem sm_d_len_1 : decode sm_c_len 1 = .ok (.getfield 9, 3) := by decide +kernel
theorem sm_d_len_4 : decode sm_c_len 4 = .ok (.arraylength, 1) := by decide +kernel
theorem sm_d_len_5 : decode sm_c_len 5 = .ok (.aload_n 0, 1) := by decide +kernel
theorem sm_d_len_6 : decode sm_c_len 6 = .ok (.invokevirtual 335, 3) := by decide +kernel
theorem sm_d_len_9 : decode sm_c_len 9 = .ok (.ishr, 1) := by decide +kernel
theorem sm_d_len_10 : decode sm_c_len 10 = .ok (.ireturn, 1) := by decide +kernel
theorem sm_d_chr_0 : decode sm_c_chr 0 = .ok (.aload_n 0, 1) := by decide +kernel
theorem sm_d_chr_1 : decode sm_c_chr 1 = .ok (.invokevirtual 492, 3) := by decide +kernel
theorem sm_d_chr_4 : decode sm_c_chr 4 = .ok (.ifCond .eq 12, 3) := by decide +kernel
theorem sm_d_chr_7 : decode sm_c_chr 7 = .ok (.aload_n 0, 1) := by decide +kernel
theorem sm_d_chr_8 : decode sm_c_chr 8 = .ok (.getfield 9, 3) := by decide +kernel
theorem sm_d_chr_11 : decode sm_c_chr 11 = .ok (.iload_n 1, 1) := by decide +kernel
theorem sm_d_chr_12 : decode sm_c_chr 12 = .ok (.invokestatic 495, 3) := by decide +kernel
theorem sm_d_chr_15 : decode sm_c_chr 15 = .ok (.ireturn, 1) := by decide +kernel
theorem sm_d_chr_16 : decode sm_c_chr 16 = .ok (.aload_n 0, 1) := by decide +kernel
theorem sm_d_chr_17 : decode sm_c_chr 17 = .ok (.getfield 9, 3) := by decide +kernel
theorem sm_d_chr_20 : decode sm_c_chr 20 = .ok (.iload_n 1, 1) := by decide +kernel
theorem sm_d_chr_21 : decode sm_c_chr 21 = .ok (.invokestatic 498, 3) := by decide +kernel
theorem sm_d_chr_24 : decode sm_c_chr 24 = .ok (.ireturn, 1) := by decide +kernel
set_option maxRecDepth 100000 in
set_option maxHeartbeats 4000000 in
theorem sm_pre (l : Launch) {a0 : Array Value} {s0 : State} {kr ad : Nat → Nat} (hZ : ∀ w ∈ lw_tbl, w.before a0 s0 = true) (hS : av_Str s0 kr ad) {i n : Int32} {r : Option Nat} (hin : vp_in i n.toNatClampNeg) (hnn : ¬ n < 0) : Met l sm_y_pre sm_w_pre (av_rm 0 0) (fun a U => a = ([.int i, .int n, va_rf r] : List Value).toArray ∧ av_O s0 U) (fun _ st o t => o = .returned (some (.int i)) ∧ t.heap = st.heap) 0 0 (fun _ => False) := by
  refine Met.ofW (cc := sm_c_pre) (maxL := 3) (ret := (some .int)) (by decide) rfl ?_
  intro p e s m args below meth c s₁ B hml hv
  obtain ⟨rfl, hO⟩ := hv
  have hx := B.exec
  have hb := B.bytes
  have hr := B.returns
  have hown : s.vm.findClass "jdk/internal/util/Preconditions" = some m.cls := findClass_of_methodNamed B.named
  have hlocks := B.notSynchronized
  have hW := hO.1
  have hkp : ∀ a : Nat, a < s0.heap.size → ¬ (fun q => s0.heap.size ≤ q) a → s.heap[a]? = s0.heap[a]? := fun a ha _ => hO.2 a ha
  have hl := lv_entry ([.int i, .int n, va_rf r]) (n := 3) (by cases r <;> exact Nat.le_of_ble_eq_true rfl)
  rw [lg_entry_eq]
  generalize (lg_sl ([.int i, .int n, va_rf r]) ++ List.replicate (3 - (lg_sl ([.int i, .int n, va_rf r])).length) Slot.unset).toArray = ls at hl ⊢
  have h1 : ls[0]? = some (.val (.int i)) := hl.2.2 (0, .int i) (by simp [lv_args, Value.category])
  have h2 : ls[1]? = some (.val (.int n)) := hl.2.2 (1, .int n) (by simp [lv_args, Value.category])
  refine lv_iload_n hx hb sm_d_pre_0 rfl h1 ?_
  refine lv_if_lt (tgt := 9) hx hb sm_d_pre_1 (by decide) (fun q => absurd (Or.inl q) hin) (fun _ => ?_)
  refine lv_iload_n hx hb sm_d_pre_4 rfl h1 ?_
  refine lv_iload_n hx hb sm_d_pre_5 rfl h2 ?_
  refine lv_icmp_lt (tgt := 16) hx hb sm_d_pre_6 (by decide) (fun _ => ?_) (fun q => ?_)
  · refine lv_iload_n hx hb sm_d_pre_16 rfl h1 ?_
    exact W.iret hx hb hr (fun t ht _ => ⟨rfl, ht⟩) (fun q h => by cases h) sm_d_pre_17
  · exfalso
    apply q
    have e1 := vp_in_iff.mp hin
    rw [Int32.lt_iff_toInt_lt]
    have e2 : ((n.toNatClampNeg : Nat) : Int) = n.toInt := by
      have := Int32.not_lt.mp hnn
      rw [Int32.le_iff_toInt_le] at this
      show ((n.toInt.toNat : Nat) : Int) = n.toInt
      have h0 : (0 : Int32).toInt = 0 := rfl
      omega
    omega
set_option maxRecDepth 100000 in
set_option maxHeartbeats 4000000 in
theorem sm_ck (l : Launch) {a0 : Array Value} {s0 : State} {kr ad : Nat → Nat} (hZ : ∀ w ∈ lw_tbl, w.before a0 s0 = true) (hS : av_Str s0 kr ad) {i n : Int32} (hin : vp_in i n.toNatClampNeg) (hnn : ¬ n < 0) : Met l sm_y_ck sm_w_ck (av_rm 1 30) (fun a U => a = ([.int i, .int n] : List Value).toArray ∧ av_O s0 U) (fun _ st o t => o = .returned none ∧ t.heap = st.heap) 0 0 (fun _ => False) := by
  refine Met.ofW (cc := sm_c_ck) (maxL := 2) (ret := none) (by decide) rfl ?_
  intro p e s m args below meth c s₁ B hml hv
  obtain ⟨rfl, hO⟩ := hv
  have hx := B.exec
  have hb := B.bytes
  have hr := B.returns
  have hown : s.vm.findClass "java/lang/String" = some m.cls := findClass_of_methodNamed B.named
  have hlocks := B.notSynchronized
  have hW := hO.1
  have hkp : ∀ a : Nat, a < s0.heap.size → ¬ (fun q => s0.heap.size ≤ q) a → s.heap[a]? = s0.heap[a]? := fun a ha _ => hO.2 a ha
  have hl := lv_entry ([.int i, .int n]) (n := 2) (Nat.le_of_ble_eq_true rfl)
  rw [lg_entry_eq]
  generalize (lg_sl ([.int i, .int n]) ++ List.replicate (2 - (lg_sl ([.int i, .int n])).length) Slot.unset).toArray = ls at hl ⊢
  have h1 : ls[0]? = some (.val (.int i)) := hl.2.2 (0, .int i) (by simp [lv_args, Value.category])
  have h2 : ls[1]? = some (.val (.int n)) := hl.2.2 (1, .int n) (by simp [lv_args, Value.category])
  refine lv_iload_n hx hb sm_d_ck_0 rfl h1 ?_
  refine lv_iload_n hx hb sm_d_ck_1 rfl h2 ?_
  have go : ∀ r : Option Nat, va_Z "jdk/internal/util/Preconditions" "SIOOBE_FORMATTER" "Ljava/util/function/BiFunction;" (va_rf r) (fun q => s0.heap.size ≤ q) s s.heap → W p l e (headSpec sm_w_ck (av_rm 1 30)).room s m ([.int i, .int n] : List Value).toArray below meth c s.heap [] 0 0 (MQ below (fun _ st o t => o = .returned none ∧ t.heap = st.heap) ([.int i, .int n] : List Value).toArray s 0 0 (fun _ => False)) (F0 m 2 ls [.int n, .int i]) := by
    intro r hz
    refine va_gets hx hb hz va_S.rf hown (av_go hZ hW (av_mem (i := 398) rfl) rfl) (fun x hx => hx) sm_d_ck_2 ?_
    refine av_callN (some (.int i)) (va_runS (As := [.int i, .int n, va_rf r]) (rest := []) (Ts := []) ⟨hx, hb, hml, hown, fun w hw => by cases hw⟩ (sm_pre l hZ hS hin hnn) ⟨av_CB (n := 3) hZ hW rfl rfl (by decide) (by decide) (av_mem (i := 402) rfl) (av_mem (i := 15) rfl) (av_mem (i := 400) rfl) (by decide) (by decide +kernel), av_go hZ hW (av_mem (i := 401) rfl) rfl⟩ ⟨av_blind, fun U hU hWU => ⟨rfl, State.WarmedH.trans hW hWU, fun q hq => by rw [hU]; exact hO.2 q hq⟩⟩ rfl rfl hl.1 rfl (lv_room (by simp)) sm_d_ck_5 ⟨Nat.le_refl _, Nat.le_refl _⟩) (fun st o t hq => hq) (fun q h => h) ?_
    refine lv_pop hx hb sm_d_ck_8 rfl ?_
    exact W.vret hx hb hr (fun t ht _ => ⟨rfl, ht⟩) (fun q h => by cases h) sm_d_ck_9
  rcases (hS.2.2.moved hW.alike).kept hkp with hz | ⟨t, hz⟩
  · exact go none hz
  · exact go (some t) hz
set_option maxRecDepth 100000 in
set_option maxHeartbeats 4000000 in
theorem sm_l1 (l : Launch) {a0 : Array Value} {s0 : State} {kr ad : Nat → Nat} (hZ : ∀ w ∈ lw_tbl, w.before a0 s0 = true) (hS : av_Str s0 kr ad) {i : Int32} {k : Nat} (hk : k < 20) (hin : vp_in i (av_lit k).length) : Met l sm_y_l1 sm_w_l1 (av_rm 2 60) (fun a U => a = ([.ref (ad k), .int i] : List Value).toArray ∧ av_O s0 U) (fun _ st o t => o = .returned (some (.int (Int32.ofInt ((av_lit k).getD i.toNatClampNeg 0)))) ∧ t.heap = st.heap) 0 0 (fun _ => False) := by
  refine Met.ofW (cc := sm_c_l1) (maxL := 2) (ret := (some .char)) (by decide) rfl ?_
  intro p e s m args below meth c s₁ B hml hv
  obtain ⟨rfl, hO⟩ := hv
  have hx := B.exec
  have hb := B.bytes
  have hr := B.returns
  have hown : s.vm.findClass "java/lang/StringLatin1" = some m.cls := findClass_of_methodNamed B.named
  have hlocks := B.notSynchronized
  have hW := hO.1
  have hkp : ∀ a : Nat, a < s0.heap.size → ¬ (fun q => s0.heap.size ≤ q) a → s.heap[a]? = s0.heap[a]? := fun a ha _ => hO.2 a ha
  have hl := lv_entry ([.ref (ad k), .int i]) (n := 2) (Nat.le_of_ble_eq_true rfl)
  rw [lg_entry_eq]
  generalize (lg_sl ([.ref (ad k), .int i]) ++ List.replicate (2 - (lg_sl ([.ref (ad k), .int i])).length) Slot.unset).toArray = ls at hl ⊢
  have h1 : ls[0]? = some (.val (.ref (ad k))) := hl.2.2 (0, .ref (ad k)) (by simp [lv_args, Value.category])
  have h2 : ls[1]? = some (.val (.int i)) := hl.2.2 (1, .int i) (by simp [lv_args, Value.category])
  have hT := ((hS.1 k hk).2.2.2.moved hW.alike).kept hkp
  obtain ⟨cell, g1, g2, g3, g4, g5, g6, g7⟩ := id hT
  obtain ⟨hlen, has⟩ := av_ascii k hk
  have hlt : i.toNatClampNeg < (av_lit k).length := Nat.not_le.mp fun q => hin (Or.inr q)
  have hcl : (nI (av_lit k).length).toNatClampNeg = (av_lit k).length := nI_clamp hlen
  refine lv_iload_n hx hb sm_d_l1_0 rfl h2 ?_
  refine lv_aload_n hx hb sm_d_l1_1 rfl h1 ?_
  refine W.alen hx hb g1 g2 g5 rfl rfl sm_d_l1_2 ?_
  refine av_callN none (va_runS (As := [.int i, .int (nI (av_lit k).length)]) (rest := []) (Ts := []) ⟨hx, hb, hml, hown, fun w hw => by cases hw⟩ (sm_ck l hZ hS (by rw [hcl]; exact hin) (nI_pos hlen)) ⟨av_CB (n := 2) hZ hW rfl rfl (by decide) (by decide) (av_mem (i := 397) rfl) (av_mem (i := 13) rfl) (av_mem (i := 395) rfl) (by decide) (by decide +kernel), av_go hZ hW (av_mem (i := 396) rfl) rfl⟩ ⟨av_blind, fun U hU hWU => ⟨rfl, State.WarmedH.trans hW hWU, fun q hq => by rw [hU]; exact hO.2 q hq⟩⟩ rfl rfl hl.1 rfl (lv_room (by simp)) sm_d_l1_3 ⟨Nat.le_refl _, Nat.le_refl _⟩) (fun st o t hq => hq) (fun q h => h) ?_
  refine lv_aload_n hx hb sm_d_l1_6 rfl h1 ?_
  refine lv_iload_n hx hb sm_d_l1_7 rfl h2 ?_
  refine va_tb hx hb hT va_S.rf hin rfl sm_d_l1_8 ?_
  refine lv_sipush (v := 255) hx hb sm_d_l1_9 (by decide) ?_
  refine lv_iand hx hb sm_d_l1_12 ?_
  refine lv_i2c hx hb sm_d_l1_13 (sc_c2 _) ?_
  have e1 := has _ hlt
  rw [e1]
  exact W.zret hx hb hr (by rw [← e1]; exact sc_nar _) (fun t ht _ => ⟨rfl, ht⟩) (fun q h => by cases h) sm_d_l1_14
set_option maxRecDepth 100000 in
set_option maxHeartbeats 4000000 in
theorem sm_lat (l : Launch) {a0 : Array Value} {s0 : State} {kr ad : Nat → Nat} (hZ : ∀ w ∈ lw_tbl, w.before a0 s0 = true) (hS : av_Str s0 kr ad) {k : Nat} (hk : k < 20) : Met l sm_y_lat sm_w_lat (av_rm 0 0) (fun a U => a = ([.ref (kr k)] : List Value).toArray ∧ av_O s0 U) (fun _ st o t => o = .returned (some (.int 1)) ∧ t.heap = st.heap) 0 0 (fun _ => False) := by
  refine Met.ofW (cc := sm_c_lat) (maxL := 1) (ret := (some .boolean)) (by decide) rfl ?_
  intro p e s m args below meth c s₁ B hml hv
  obtain ⟨rfl, hO⟩ := hv
  have hx := B.exec
  have hb := B.bytes
  have hr := B.returns
  have hown : s.vm.findClass "java/lang/String" = some m.cls := findClass_of_methodNamed B.named
  have hlocks := B.notSynchronized
  have hW := hO.1
  have hkp : ∀ a : Nat, a < s0.heap.size → ¬ (fun q => s0.heap.size ≤ q) a → s.heap[a]? = s0.heap[a]? := fun a ha _ => hO.2 a ha
  have hl := lv_entry ([.ref (kr k)]) (n := 1) (Nat.le_of_ble_eq_true rfl)
  rw [lg_entry_eq]
  generalize (lg_sl ([.ref (kr k)]) ++ List.replicate (1 - (lg_sl ([.ref (kr k)])).length) Slot.unset).toArray = ls at hl ⊢
  have h1 : ls[0]? = some (.val (.ref (kr k))) := hl.2.2 (0, .ref (kr k)) (by simp [lv_args, Value.category])
  refine va_gets hx hb ((hS.2.1.moved hW.alike).kept hkp) va_S.rf hown (av_go hZ hW (av_mem (i := 382) rfl) rfl) (fun x hx => hx) sm_d_lat_0 ?_
  refine lv_if_eq (tgt := 17) hx hb sm_d_lat_3 (by decide) (fun q => by cases q) (fun _ => ?_)
  refine lv_aload_n hx hb sm_d_lat_6 rfl h1 ?_
  refine vk_getf hx hb (((hS.1 k hk).2.1.moved hW.alike).kept hkp) va_S.rf hown (av_go hZ hW (av_mem (i := 1509) rfl) rfl) (fun x hx => hx) sm_d_lat_7 ?_
  refine lv_if_ne (tgt := 17) hx hb sm_d_lat_10 (by decide) (fun q => absurd rfl q) (fun _ => ?_)
  refine lv_iconst (v := 1) hx hb sm_d_lat_13 (by decide) ?_
  refine lv_goto (tgt := 18) hx hb sm_d_lat_14 (by decide) ?_
  exact W.zret hx hb hr (by decide) (fun t ht _ => ⟨rfl, ht⟩) (fun q h => by cases h) sm_d_lat_18
set_option maxRecDepth 100000 in
set_option maxHeartbeats 4000000 in
theorem sm_cod (l : Launch) {a0 : Array Value} {s0 : State} {kr ad : Nat → Nat} (hZ : ∀ w ∈ lw_tbl, w.before a0 s0 = true) (hS : av_Str s0 kr ad) {k : Nat} (hk : k < 20) : Met l sm_y_cod sm_w_cod (av_rm 0 0) (fun a U => a = ([.ref (kr k)] : List Value).toArray ∧ av_O s0 U) (fun _ st o t => o = .returned (some (.int 0)) ∧ t.heap = st.heap) 0 0 (fun _ => False) := by
  refine Met.ofW (cc := sm_c_cod) (maxL := 1) (ret := (some .byte)) (by decide) rfl ?_
  intro p e s m args below meth c s₁ B hml hv
  obtain ⟨rfl, hO⟩ := hv
  have hx := B.exec
  have hb := B.bytes
  have hr := B.returns
  have hown : s.vm.findClass "java/lang/String" = some m.cls := findClass_of_methodNamed B.named
  have hlocks := B.notSynchronized
  have hW := hO.1
  have hkp : ∀ a : Nat, a < s0.heap.size → ¬ (fun q => s0.heap.size ≤ q) a → s.heap[a]? = s0.heap[a]? := fun a ha _ => hO.2 a ha
  have hl := lv_entry ([.ref (kr k)]) (n := 1) (Nat.le_of_ble_eq_true rfl)
  rw [lg_entry_eq]
  generalize (lg_sl ([.ref (kr k)]) ++ List.replicate (1 - (lg_sl ([.ref (kr k)])).length) Slot.unset).toArray = ls at hl ⊢
  have h1 : ls[0]? = some (.val (.ref (kr k))) := hl.2.2 (0, .ref (kr k)) (by simp [lv_args, Value.category])
  refine va_gets hx hb ((hS.2.1.moved hW.alike).kept hkp) va_S.rf hown (av_go hZ hW (av_mem (i := 382) rfl) rfl) (fun x hx => hx) sm_d_cod_0 ?_
  refine lv_if_eq (tgt := 13) hx hb sm_d_cod_3 (by decide) (fun q => by cases q) (fun _ => ?_)
  refine lv_aload_n hx hb sm_d_cod_6 rfl h1 ?_
  refine vk_getf hx hb (((hS.1 k hk).2.1.moved hW.alike).kept hkp) va_S.rf hown (av_go hZ hW (av_mem (i := 1509) rfl) rfl) (fun x hx => hx) sm_d_cod_7 ?_
  refine lv_goto (tgt := 14) hx hb sm_d_cod_10 (by decide) ?_
  exact W.zret hx hb hr (by decide) (fun t ht _ => ⟨rfl, ht⟩) (fun q h => by cases h) sm_d_cod_14
set_option maxRecDepth 100000 in
set_option maxHeartbeats 4000000 in
theorem sm_len (l : Launch) {a0 : Array Value} {s0 : State} {kr ad : Nat → Nat} (hZ : ∀ w ∈ lw_tbl, w.before a0 s0 = true) (hS : av_Str s0 kr ad) {k : Nat} (hk : k < 20) : Met l sm_y_len sm_w_len (av_rm 1 30) (fun a U => a = ([.ref (kr k)] : List Value).toArray ∧ av_O s0 U) (fun _ st o t => o = .returned (some (.int (nI (av_lit k).length))) ∧ t.heap = st.heap) 0 0 (fun _ => False) := by
  refine Met.ofW (cc := sm_c_len) (maxL := 1) (ret := (some .int)) (by decide) rfl ?_
  intro p e s m args below meth c s₁ B hml hv
  obtain ⟨rfl, hO⟩ := hv
  have hx := B.exec
  have hb := B.bytes
  have hr := B.returns
  have hown : s.vm.findClass "java/lang/String" = some m.cls := findClass_of_methodNamed B.named
  have hlocks := B.notSynchronized
  have hW := hO.1
  have hkp : ∀ a : Nat, a < s0.heap.size → ¬ (fun q => s0.heap.size ≤ q) a → s.heap[a]? = s0.heap[a]? := fun a ha _ => hO.2 a ha
  have hl := lv_entry ([.ref (kr k)]) (n := 1) (Nat.le_of_ble_eq_true rfl)
  rw [lg_entry_eq]
  generalize (lg_sl ([.ref (kr k)]) ++ List.replicate (1 - (lg_sl ([.ref (kr k)])).length) Slot.unset).toArray = ls at hl ⊢
  have h1 : ls[0]? = some (.val (.ref (kr k))) := hl.2.2 (0, .ref (kr k)) (by simp [lv_args, Value.category])
  have hrc : ∃ cell : Cell, s.heap[kr k]? = some cell ∧ cell.vm.isStatics = false ∧ s.vm.findClass "java/lang/String" = some cell.cls := by
    obtain ⟨cell, r1, r2, r3, -⟩ := ((hS.1 k hk).1.moved hW.alike).kept hkp
    exact ⟨cell, r1, r2, r3⟩
  obtain ⟨cellT, g1, g2, g3, g4, g5, g6, g7⟩ := ((hS.1 k hk).2.2.2.moved hW.alike).kept hkp
  refine lv_aload_n hx hb sm_d_len_0 rfl h1 ?_
  refine vk_getf hx hb (((hS.1 k hk).2.2.1.moved hW.alike).kept hkp) va_S.rf hown (av_go hZ hW (av_mem (i := 1508) rfl) rfl) (fun x hx => hx) sm_d_len_1 ?_
  refine W.alen hx hb g1 g2 g5 rfl rfl sm_d_len_4 ?_
  refine lv_aload_n hx hb sm_d_len_5 rfl h1 ?_
  refine av_callN (some (.int 0)) (va_runV (C := "java/lang/String") (As := []) (rest := [.int (Int32.ofNat (av_lit k).length)]) (Ts := []) ⟨hx, hb, hml, hown, fun w hw => by cases hw⟩ (sm_cod l hZ hS hk) ⟨av_CB (n := 0) hZ hW rfl rfl (by decide) (by decide) (av_mem (i := 381) rfl) (av_mem (i := 13) rfl) (av_mem (i := 378) rfl) (by decide) (by decide +kernel), av_go hZ hW (av_mem (i := 379) rfl) rfl, av_go hZ hW (av_mem (i := 380) rfl) rfl⟩ ⟨av_blind, hrc, fun U hU hWU => ⟨rfl, State.WarmedH.trans hW hWU, fun q hq => by rw [hU]; exact hO.2 q hq⟩⟩ rfl rfl hl.1 rfl (lv_room (by simp [Value.category])) sm_d_len_6 ⟨Nat.le_refl _, Nat.le_refl _⟩) (fun st o t hq => hq) (fun q h => h) ?_
  refine lv_ishr hx hb sm_d_len_9 ?_
  rw [sb_shr0]
  exact W.iret hx hb hr (fun t ht _ => ⟨rfl, ht⟩) (fun q h => by cases h) sm_d_len_10
set_option maxRecDepth 100000 in
set_option maxHeartbeats 4000000 in
theorem sm_chr (l : Launch) {a0 : Array Value} {s0 : State} {kr ad : Nat → Nat} (hZ : ∀ w ∈ lw_tbl, w.before a0 s0 = true) (hS : av_Str s0 kr ad) {i : Int32} {k : Nat} (hk : k < 20) (hin : vp_in i (av_lit k).length) : Met l sm_y_chr sm_w_chr (av_rm 3 90) (fun a U => a = ([.ref (kr k), .int i] : List Value).toArray ∧ av_O s0 U) (fun _ st o t => o = .returned (some (.int (Int32.ofInt ((av_lit k).getD i.toNatClampNeg 0)))) ∧ t.heap = st.heap) 0 0 (fun _ => False) := by
  refine Met.ofW (cc := sm_c_chr) (maxL := 2) (ret := (some .char)) (by decide) rfl ?_
  intro p e s m args below meth c s₁ B hml hv
  obtain ⟨rfl, hO⟩ := hv
  have hx := B.exec
  have hb := B.bytes
  have hr := B.returns
  have hown : s.vm.findClass "java/lang/String" = some m.cls := findClass_of_methodNamed B.named
  have hlocks := B.notSynchronized
  have hW := hO.1
  have hkp : ∀ a : Nat, a < s0.heap.size → ¬ (fun q => s0.heap.size ≤ q) a → s.heap[a]? = s0.heap[a]? := fun a ha _ => hO.2 a ha
  have hl := lv_entry ([.ref (kr k), .int i]) (n := 2) (Nat.le_of_ble_eq_true rfl)
  rw [lg_entry_eq]
  generalize (lg_sl ([.ref (kr k), .int i]) ++ List.replicate (2 - (lg_sl ([.ref (kr k), .int i])).length) Slot.unset).toArray = ls at hl ⊢
  have h1 : ls[0]? = some (.val (.ref (kr k))) := hl.2.2 (0, .ref (kr k)) (by simp [lv_args, Value.category])
  have h2 : ls[1]? = some (.val (.int i)) := hl.2.2 (1, .int i) (by simp [lv_args, Value.category])
  have hrc : ∃ cell : Cell, s.heap[kr k]? = some cell ∧ cell.vm.isStatics = false ∧ s.vm.findClass "java/lang/String" = some cell.cls := by
    obtain ⟨cell, r1, r2, r3, -⟩ := ((hS.1 k hk).1.moved hW.alike).kept hkp
    exact ⟨cell, r1, r2, r3⟩
  refine lv_aload_n hx hb sm_d_chr_0 rfl h1 ?_
  refine av_callN (some (.int 1)) (va_runV (C := "java/lang/String") (As := []) (rest := []) (Ts := []) ⟨hx, hb, hml, hown, fun w hw => by cases hw⟩ (sm_lat l hZ hS hk) ⟨av_CB (n := 0) hZ hW rfl rfl (by decide) (by decide) (av_mem (i := 391) rfl) (av_mem (i := 13) rfl) (av_mem (i := 388) rfl) (by decide) (by decide +kernel), av_go hZ hW (av_mem (i := 389) rfl) rfl, av_go hZ hW (av_mem (i := 390) rfl) rfl⟩ ⟨av_blind, hrc, fun U hU hWU => ⟨rfl, State.WarmedH.trans hW hWU, fun q hq => by rw [hU]; exact hO.2 q hq⟩⟩ rfl rfl hl.1 rfl (lv_room (by simp [Value.category])) sm_d_chr_1 ⟨Nat.le_refl _, Nat.le_refl _⟩) (fun st o t hq => hq) (fun q h => h) ?_
  refine lv_if_eq (tgt := 16) hx hb sm_d_chr_4 rfl (fun q => by cases q) (fun _ => ?_)
  refine lv_aload_n hx hb sm_d_chr_7 rfl h1 ?_
  refine vk_getf hx hb (((hS.1 k hk).2.2.1.moved hW.alike).kept hkp) va_S.rf hown (av_go hZ hW (av_mem (i := 1508) rfl) rfl) (fun x hx => hx) sm_d_chr_8 ?_
  refine lv_iload_n hx hb sm_d_chr_11 rfl h2 ?_
  refine av_callN (some (.int (Int32.ofInt ((av_lit k).getD i.toNatClampNeg 0)))) (va_runS (As := [.ref (ad k), .int i]) (rest := []) (Ts := []) ⟨hx, hb, hml, hown, fun w hw => by cases hw⟩ (sm_l1 l hZ hS hk hin) ⟨av_CB (n := 2) hZ hW rfl rfl (by decide) (by decide) (av_mem (i := 394) rfl) (av_mem (i := 14) rfl) (av_mem (i := 392) rfl) (by decide) (by decide +kernel), av_go hZ hW (av_mem (i := 393) rfl) rfl⟩ ⟨av_blind, fun U hU hWU => ⟨rfl, State.WarmedH.trans hW hWU, fun q hq => by rw [hU]; exact hO.2 q hq⟩⟩ rfl rfl hl.1 rfl (lv_room (by simp)) sm_d_chr_12 ⟨Nat.le_refl _, Nat.le_refl _⟩) (fun st o t hq => hq) (fun q h => h) ?_
  have hlt : i.toNatClampNeg < (av_lit k).length := Nat.not_le.mp fun q => hin (Or.inr q)
  have e1 := (av_ascii k hk).2 _ hlt
  exact W.zret hx hb hr (by rw [← e1]; exact sc_nar _) (fun t ht _ => ⟨rfl, ht⟩) (fun q h => by cases h) sm_d_chr_15
