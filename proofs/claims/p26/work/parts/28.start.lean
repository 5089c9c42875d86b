/-! THE CLAIM OUT OF ONE WALK OF THE LAW'S BODY. Your part is whole_start (and what it stands on); all else here is the same for every law, but numbers. -/
def R_law : String := "CrossingWordsLaw"
def lw_P (b : Addr) (xs : List Int32) (args : Array Value) (s : State) : Prop := args = #[.ref b] ∧ s.IntsAt b xs ∧ xs.length ≤ 3072 ∧ (Jvm.Cond.and given_1 narrow_1).before args s = true
def lw_Q (_ : Array Value) (s : State) (o : Outcome) (t : State) : Prop := o = .returned (some (.int 1)) ∧ Framed s o t [] 600000 7302250
def lw_Z (below : List Frame) (a : Array Value) (s : State) : State → Prop := fun t => ∃ o, t.status = .running ∧ Ended t below o ∧ lw_Q a s o t
/-- the law's own end, with 1 on the stack, nothing written that was there before, its room as the claim has it -/
theorem lw_ret {p : Program} {l : Launch} {e : Env} {s : State} {m : MethodId} {below : List Frame} {meth : Method} {c : Code} {b : Nat} (hx : p.tables.exec = Jvm.exec) (hb : c.code = code) (hr : meth.sig.returnType = ret) (hlocks : meth.locks = false) {pc : Nat} {H : Heap} {ls : Array Slot} (hdg : decode code pc = .ok (.ireturn, 1)) : W p l e room_1 s m #[Value.ref b] below meth c H [] 600000 7302250 (lw_Z below #[Value.ref b] s) (F0 m pc ls [.int 1]) := by
  intro T hT X
  obtain ⟨fs, hret, hrun, hended, hW, hframe⟩ := X.leave (v := some (.int 1)) (hlocks := hlocks) (fun h => by rw [hr] at h; cases h)
  have hmeth' : T.vm.method? m = some meth := X.method'
  refine ⟨T.setFrames fs, ?_, .returned (some (.int 1)), hrun, hended, rfl, ⟨_, rfl⟩, hW, hframe⟩
  jvm_step X.here [X.here.top, hx, hb, hdg, hmeth', hr, ret, narrow_b1]
  (try refine ⟨rfl, ?_⟩); (try refine ⟨rfl, ?_⟩)
  first | (intro acts; rw [hret _ acts rfl rfl rfl]) | rw [hret _ _ rfl rfl rfl]
  exact Steps.refl _
/-- what holds at the law's entry: the machine, the code, the tables' words (any of lw_tbl by 'hts w (by decide +kernel)'), the script of L ints xs at the cell b, what the Statement gives of the start (any of its parts by flat_of_before) -/
def lw_At (p : Program) (s : State) (m : MethodId) (meth : Method) (c : Code) (b L : Nat) (xs : Nat → Int32) : Prop :=
  p.tables.exec = Jvm.exec ∧ c.code = code ∧ meth.sig.returnType = ret ∧ c.maxLocals = 4 ∧ s.vm.findClass R_law = some m.cls ∧ (∀ w ∈ lw_tbl, w.before #[Value.ref b] s = true) ∧ va_X b L xs s s.heap ∧ b < s.heap.size ∧ meth.locks = false ∧ (Jvm.Cond.and given_1 narrow_1).before #[Value.ref b] s = true

def av_tm : Nat → Term := fun k => match k with
  | 0 => .string "CrossingWords$CaseReader" 66
  | 1 => .string "CrossingWords$CaseReader" 72
  | 2 => .string "CrossingWords$CaseReader" 123
  | 3 => .string "CrossingWords$CaseReader" 116
  | 4 => .string "CrossingWords$CaseReader" 121
  | 5 => .string "CrossingWords$CaseReader" 84
  | 6 => .string "CrossingWords$CaseReader" 125
  | 7 => .string "CrossingWords$CaseReader" 127
  | 8 => .string "CrossingWords$CaseReader" 143
  | 9 => .string "CrossingWords$CaseReader" 137
  | 10 => .string "CrossingWords$CaseReader" 139
  | 11 => .string "CrossingWords$CaseReader" 141
  | 12 => .string "CrossingWords$LawReader" 41
  | 13 => .string "CrossingWords$LawReader" 69
  | 14 => .string "CrossingWords$LawReader" 50
  | 15 => .string "CrossingWords$LawReader" 52
  | 16 => .string "CrossingWords$LawReader" 58
  | 17 => .string "CrossingWords$LawReader" 60
  | 18 => .string "CrossingWords$LawReader" 62
  | _ => .string "CrossingWords$LawReader" 64
def av_tx : Nat → String := fun k => match k with
  | 0 => "offer ask yes no back deed send"
  | 1 => "a b c"
  | 2 => "price much day port court"
  | 3 => "hold"
  | 4 => "given"
  | 5 => "but"
  | 6 => "post wire mouth deed"
  | 7 => "at"
  | 8 => "to"
  | 9 => "after"
  | 10 => "read"
  | 11 => "lost"
  | 12 => "yes offer back no hold lapse silence but form deed risk"
  | 13 => "post wire mouth all"
  | 14 => "sent come read"
  | 15 => "free binds"
  | 16 => "no small"
  | 17 => "first last none"
  | 18 => "none yes"
  | _ => "bargain sent come"
/-- the parts of what the Statement gives of the start -/
def av_fl : List Cond := flatC (Jvm.Cond.and given_1 narrow_1)
theorem av_fl_of {args : Array Value} {s : State} (h : (Jvm.Cond.and given_1 narrow_1).before args s = true) : ∀ w ∈ av_fl, w.before args s = true := flat_of_before _ h
set_option maxRecDepth 100000 in
set_option maxHeartbeats 4000000 in
theorem av_g_ex : ∀ k, k < 20 → Cond.exactly (av_tm k) "java/lang/String" ∈ av_fl := by decide +kernel
set_option maxRecDepth 100000 in
set_option maxHeartbeats 4000000 in
theorem av_g_co : ∀ k, k < 20 → Cond.eq (.field (av_tm k) "java/lang/String" "coder" "B") (.int 0) ∈ av_fl := by decide +kernel
set_option maxRecDepth 100000 in
set_option maxHeartbeats 4000000 in
theorem av_g_ar : ∀ k, k < 20 → Cond.arrayOf (.field (av_tm k) "java/lang/String" "value" "[B") .byte ∈ av_fl := by decide +kernel
set_option maxRecDepth 100000 in
set_option maxHeartbeats 4000000 in
theorem av_g_le : ∀ k, k < 20 → Cond.eq (.length (.field (av_tm k) "java/lang/String" "value" "[B")) (.int (Int32.ofNat (av_lit k).length)) ∈ av_fl := by decide +kernel
set_option maxRecDepth 100000 in
set_option maxHeartbeats 4000000 in
theorem av_g_el0 : (List.range 31).map (fun j => Cond.eq (.elem (.field (av_tm 0) "java/lang/String" "value" "[B") (.int (Int32.ofNat j))) (.int (Int32.ofInt ((av_lit 0).getD j 0)))) = (av_fl.drop 48).take 31 := by decide +kernel
set_option maxRecDepth 100000 in
set_option maxHeartbeats 4000000 in
theorem av_g_el1 : (List.range 5).map (fun j => Cond.eq (.elem (.field (av_tm 1) "java/lang/String" "value" "[B") (.int (Int32.ofNat j))) (.int (Int32.ofInt ((av_lit 1).getD j 0)))) = (av_fl.drop 83).take 5 := by decide +kernel
set_option maxRecDepth 100000 in
set_option maxHeartbeats 4000000 in
theorem av_g_el2 : (List.range 25).map (fun j => Cond.eq (.elem (.field (av_tm 2) "java/lang/String" "value" "[B") (.int (Int32.ofNat j))) (.int (Int32.ofInt ((av_lit 2).getD j 0)))) = (av_fl.drop 93).take 25 := by decide +kernel
set_option maxRecDepth 100000 in
set_option maxHeartbeats 4000000 in
theorem av_g_el3 : (List.range 4).map (fun j => Cond.eq (.elem (.field (av_tm 3) "java/lang/String" "value" "[B") (.int (Int32.ofNat j))) (.int (Int32.ofInt ((av_lit 3).getD j 0)))) = (av_fl.drop 124).take 4 := by decide +kernel
set_option maxRecDepth 100000 in
set_option maxHeartbeats 4000000 in
theorem av_g_el4 : (List.range 5).map (fun j => Cond.eq (.elem (.field (av_tm 4) "java/lang/String" "value" "[B") (.int (Int32.ofNat j))) (.int (Int32.ofInt ((av_lit 4).getD j 0)))) = (av_fl.drop 135).take 5 := by decide +kernel
set_option maxRecDepth 100000 in
set_option maxHeartbeats 4000000 in
theorem av_g_el5 : (List.range 3).map (fun j => Cond.eq (.elem (.field (av_tm 5) "java/lang/String" "value" "[B") (.int (Int32.ofNat j))) (.int (Int32.ofInt ((av_lit 5).getD j 0)))) = (av_fl.drop 148).take 3 := by decide +kernel
set_option maxRecDepth 100000 in
set_option maxHeartbeats 4000000 in
theorem av_g_el6 : (List.range 20).map (fun j => Cond.eq (.elem (.field (av_tm 6) "java/lang/String" "value" "[B") (.int (Int32.ofNat j))) (.int (Int32.ofInt ((av_lit 6).getD j 0)))) = (av_fl.drop 160).take 20 := by decide +kernel
set_option maxRecDepth 100000 in
set_option maxHeartbeats 4000000 in
theorem av_g_el7 : (List.range 2).map (fun j => Cond.eq (.elem (.field (av_tm 7) "java/lang/String" "value" "[B") (.int (Int32.ofNat j))) (.int (Int32.ofInt ((av_lit 7).getD j 0)))) = (av_fl.drop 190).take 2 := by decide +kernel
set_option maxRecDepth 100000 in
set_option maxHeartbeats 4000000 in
theorem av_g_el8 : (List.range 2).map (fun j => Cond.eq (.elem (.field (av_tm 8) "java/lang/String" "value" "[B") (.int (Int32.ofNat j))) (.int (Int32.ofInt ((av_lit 8).getD j 0)))) = (av_fl.drop 203).take 2 := by decide +kernel
set_option maxRecDepth 100000 in
set_option maxHeartbeats 4000000 in
theorem av_g_el9 : (List.range 5).map (fun j => Cond.eq (.elem (.field (av_tm 9) "java/lang/String" "value" "[B") (.int (Int32.ofNat j))) (.int (Int32.ofInt ((av_lit 9).getD j 0)))) = (av_fl.drop 217).take 5 := by decide +kernel
set_option maxRecDepth 100000 in
set_option maxHeartbeats 4000000 in
theorem av_g_el10 : (List.range 4).map (fun j => Cond.eq (.elem (.field (av_tm 10) "java/lang/String" "value" "[B") (.int (Int32.ofNat j))) (.int (Int32.ofInt ((av_lit 10).getD j 0)))) = (av_fl.drop 235).take 4 := by decide +kernel
set_option maxRecDepth 100000 in
set_option maxHeartbeats 4000000 in
theorem av_g_el11 : (List.range 4).map (fun j => Cond.eq (.elem (.field (av_tm 11) "java/lang/String" "value" "[B") (.int (Int32.ofNat j))) (.int (Int32.ofInt ((av_lit 11).getD j 0)))) = (av_fl.drop 253).take 4 := by decide +kernel
set_option maxRecDepth 100000 in
set_option maxHeartbeats 4000000 in
theorem av_g_el12 : (List.range 55).map (fun j => Cond.eq (.elem (.field (av_tm 12) "java/lang/String" "value" "[B") (.int (Int32.ofNat j))) (.int (Int32.ofInt ((av_lit 12).getD j 0)))) = (av_fl.drop 272).take 55 := by decide +kernel
set_option maxRecDepth 100000 in
set_option maxHeartbeats 4000000 in
theorem av_g_el13 : (List.range 19).map (fun j => Cond.eq (.elem (.field (av_tm 13) "java/lang/String" "value" "[B") (.int (Int32.ofNat j))) (.int (Int32.ofInt ((av_lit 13).getD j 0)))) = (av_fl.drop 343).take 19 := by decide +kernel
set_option maxRecDepth 100000 in
set_option maxHeartbeats 4000000 in
theorem av_g_el14 : (List.range 14).map (fun j => Cond.eq (.elem (.field (av_tm 14) "java/lang/String" "value" "[B") (.int (Int32.ofNat j))) (.int (Int32.ofInt ((av_lit 14).getD j 0)))) = (av_fl.drop 379).take 14 := by decide +kernel
set_option maxRecDepth 100000 in
set_option maxHeartbeats 4000000 in
theorem av_g_el15 : (List.range 10).map (fun j => Cond.eq (.elem (.field (av_tm 15) "java/lang/String" "value" "[B") (.int (Int32.ofNat j))) (.int (Int32.ofInt ((av_lit 15).getD j 0)))) = (av_fl.drop 411).take 10 := by decide +kernel
set_option maxRecDepth 100000 in
set_option maxHeartbeats 4000000 in
theorem av_g_el16 : (List.range 8).map (fun j => Cond.eq (.elem (.field (av_tm 16) "java/lang/String" "value" "[B") (.int (Int32.ofNat j))) (.int (Int32.ofInt ((av_lit 16).getD j 0)))) = (av_fl.drop 440).take 8 := by decide +kernel
set_option maxRecDepth 100000 in
set_option maxHeartbeats 4000000 in
theorem av_g_el17 : (List.range 15).map (fun j => Cond.eq (.elem (.field (av_tm 17) "java/lang/String" "value" "[B") (.int (Int32.ofNat j))) (.int (Int32.ofInt ((av_lit 17).getD j 0)))) = (av_fl.drop 468).take 15 := by decide +kernel
set_option maxRecDepth 100000 in
set_option maxHeartbeats 4000000 in
theorem av_g_el18 : (List.range 8).map (fun j => Cond.eq (.elem (.field (av_tm 18) "java/lang/String" "value" "[B") (.int (Int32.ofNat j))) (.int (Int32.ofInt ((av_lit 18).getD j 0)))) = (av_fl.drop 504).take 8 := by decide +kernel
set_option maxRecDepth 100000 in
set_option maxHeartbeats 4000000 in
theorem av_g_el19 : (List.range 17).map (fun j => Cond.eq (.elem (.field (av_tm 19) "java/lang/String" "value" "[B") (.int (Int32.ofNat j))) (.int (Int32.ofInt ((av_lit 19).getD j 0)))) = (av_fl.drop 534).take 17 := by decide +kernel
theorem av_g_elm {n B k : Nat} (h : (List.range n).map (fun j => Cond.eq (.elem (.field (av_tm k) "java/lang/String" "value" "[B") (.int (Int32.ofNat j))) (.int (Int32.ofInt ((av_lit k).getD j 0)))) = (av_fl.drop B).take n) {j : Nat} (hj : j < n) : Cond.eq (.elem (.field (av_tm k) "java/lang/String" "value" "[B") (.int (Int32.ofNat j))) (.int (Int32.ofInt ((av_lit k).getD j 0))) ∈ av_fl := by
  have hm : Cond.eq (.elem (.field (av_tm k) "java/lang/String" "value" "[B") (.int (Int32.ofNat j))) (.int (Int32.ofInt ((av_lit k).getD j 0))) ∈ (av_fl.drop B).take n := by
    rw [← h]
    exact List.mem_map.mpr ⟨j, List.mem_range.mpr hj, rfl⟩
  exact List.mem_of_mem_drop (List.mem_of_mem_take hm)
theorem av_g_el : ∀ k, k < 20 → ∀ j, j < (av_lit k).length → Cond.eq (.elem (.field (av_tm k) "java/lang/String" "value" "[B") (.int (Int32.ofNat j))) (.int (Int32.ofInt ((av_lit k).getD j 0))) ∈ av_fl := fun k hk j hj => match k, hk, hj with
  | 0, _, hj => av_g_elm av_g_el0 hj
  | 1, _, hj => av_g_elm av_g_el1 hj
  | 2, _, hj => av_g_elm av_g_el2 hj
  | 3, _, hj => av_g_elm av_g_el3 hj
  | 4, _, hj => av_g_elm av_g_el4 hj
  | 5, _, hj => av_g_elm av_g_el5 hj
  | 6, _, hj => av_g_elm av_g_el6 hj
  | 7, _, hj => av_g_elm av_g_el7 hj
  | 8, _, hj => av_g_elm av_g_el8 hj
  | 9, _, hj => av_g_elm av_g_el9 hj
  | 10, _, hj => av_g_elm av_g_el10 hj
  | 11, _, hj => av_g_elm av_g_el11 hj
  | 12, _, hj => av_g_elm av_g_el12 hj
  | 13, _, hj => av_g_elm av_g_el13 hj
  | 14, _, hj => av_g_elm av_g_el14 hj
  | 15, _, hj => av_g_elm av_g_el15 hj
  | 16, _, hj => av_g_elm av_g_el16 hj
  | 17, _, hj => av_g_elm av_g_el17 hj
  | 18, _, hj => av_g_elm av_g_el18 hj
  | 19, _, hj => av_g_elm av_g_el19 hj
  | k + 20, h, _ => absurd h (by omega)
set_option maxRecDepth 100000 in
set_option maxHeartbeats 4000000 in
theorem av_g_pe : ∀ j, j < 14 → Cond.eq (.elem (.static "CrossingWords" "PLAIN_LAW" "[I") (.int (Int32.ofNat j))) (.int (Int32.ofInt (av_plain j))) ∈ av_fl := by decide +kernel
set_option maxRecDepth 100000 in
set_option maxHeartbeats 4000000 in
theorem av_g_sr0 : Cond.stringRef "CrossingWords$CaseReader" 66 "offer ask yes no back deed send" ∈ lw_tbl := (av_mem (i := 365) rfl)
set_option maxRecDepth 100000 in
set_option maxHeartbeats 4000000 in
theorem av_g_sr1 : Cond.stringRef "CrossingWords$CaseReader" 72 "a b c" ∈ lw_tbl := (av_mem (i := 423) rfl)
set_option maxRecDepth 100000 in
set_option maxHeartbeats 4000000 in
theorem av_g_sr2 : Cond.stringRef "CrossingWords$CaseReader" 123 "price much day port court" ∈ lw_tbl := (av_mem (i := 450) rfl)
set_option maxRecDepth 100000 in
set_option maxHeartbeats 4000000 in
theorem av_g_sr3 : Cond.stringRef "CrossingWords$CaseReader" 116 "hold" ∈ lw_tbl := (av_mem (i := 456) rfl)
set_option maxRecDepth 100000 in
set_option maxHeartbeats 4000000 in
theorem av_g_sr4 : Cond.stringRef "CrossingWords$CaseReader" 121 "given" ∈ lw_tbl := (av_mem (i := 461) rfl)
set_option maxRecDepth 100000 in
set_option maxHeartbeats 4000000 in
theorem av_g_sr5 : Cond.stringRef "CrossingWords$CaseReader" 84 "but" ∈ lw_tbl := (av_mem (i := 462) rfl)
set_option maxRecDepth 100000 in
set_option maxHeartbeats 4000000 in
theorem av_g_sr6 : Cond.stringRef "CrossingWords$CaseReader" 125 "post wire mouth deed" ∈ lw_tbl := (av_mem (i := 471) rfl)
set_option maxRecDepth 100000 in
set_option maxHeartbeats 4000000 in
theorem av_g_sr7 : Cond.stringRef "CrossingWords$CaseReader" 127 "at" ∈ lw_tbl := (av_mem (i := 472) rfl)
set_option maxRecDepth 100000 in
set_option maxHeartbeats 4000000 in
theorem av_g_sr8 : Cond.stringRef "CrossingWords$CaseReader" 143 "to" ∈ lw_tbl := (av_mem (i := 481) rfl)
set_option maxRecDepth 100000 in
set_option maxHeartbeats 4000000 in
theorem av_g_sr9 : Cond.stringRef "CrossingWords$CaseReader" 137 "after" ∈ lw_tbl := (av_mem (i := 482) rfl)
set_option maxRecDepth 100000 in
set_option maxHeartbeats 4000000 in
theorem av_g_sr10 : Cond.stringRef "CrossingWords$CaseReader" 139 "read" ∈ lw_tbl := (av_mem (i := 483) rfl)
set_option maxRecDepth 100000 in
set_option maxHeartbeats 4000000 in
theorem av_g_sr11 : Cond.stringRef "CrossingWords$CaseReader" 141 "lost" ∈ lw_tbl := (av_mem (i := 484) rfl)
set_option maxRecDepth 100000 in
set_option maxHeartbeats 4000000 in
theorem av_g_sr12 : Cond.stringRef "CrossingWords$LawReader" 41 "yes offer back no hold lapse silence but form deed risk" ∈ lw_tbl := (av_mem (i := 529) rfl)
set_option maxRecDepth 100000 in
set_option maxHeartbeats 4000000 in
theorem av_g_sr13 : Cond.stringRef "CrossingWords$LawReader" 69 "post wire mouth all" ∈ lw_tbl := (av_mem (i := 535) rfl)
set_option maxRecDepth 100000 in
set_option maxHeartbeats 4000000 in
theorem av_g_sr14 : Cond.stringRef "CrossingWords$LawReader" 50 "sent come read" ∈ lw_tbl := (av_mem (i := 536) rfl)
set_option maxRecDepth 100000 in
set_option maxHeartbeats 4000000 in
theorem av_g_sr15 : Cond.stringRef "CrossingWords$LawReader" 52 "free binds" ∈ lw_tbl := (av_mem (i := 537) rfl)
set_option maxRecDepth 100000 in
set_option maxHeartbeats 4000000 in
theorem av_g_sr16 : Cond.stringRef "CrossingWords$LawReader" 58 "no small" ∈ lw_tbl := (av_mem (i := 539) rfl)
set_option maxRecDepth 100000 in
set_option maxHeartbeats 4000000 in
theorem av_g_sr17 : Cond.stringRef "CrossingWords$LawReader" 60 "first last none" ∈ lw_tbl := (av_mem (i := 540) rfl)
set_option maxRecDepth 100000 in
set_option maxHeartbeats 4000000 in
theorem av_g_sr18 : Cond.stringRef "CrossingWords$LawReader" 62 "none yes" ∈ lw_tbl := (av_mem (i := 541) rfl)
set_option maxRecDepth 100000 in
set_option maxHeartbeats 4000000 in
theorem av_g_sr19 : Cond.stringRef "CrossingWords$LawReader" 64 "bargain sent come" ∈ lw_tbl := (av_mem (i := 542) rfl)
set_option maxRecDepth 100000 in
set_option maxHeartbeats 4000000 in
theorem av_kn0 {a0 : Array Value} {s0 : State} (hts : ∀ w ∈ lw_tbl, w.before a0 s0 = true) : ∃ D : va_G, ∀ ci, ci < 9 → u_Kn s0 (av_cn ci) (av_T ci) (av_N ci) (D.1 ci) (D.2 ci) := by
  have h : ∀ ci : Nat, ∃ q : ClassId × (Nat → Nat), ci < 9 → u_Kn s0 (av_cn ci) (av_T ci) (av_N ci) q.1 q.2 := by
    intro ci
    by_cases hc : ci < 9
    · obtain ⟨c, i, hk⟩ := u_known (C := av_cn ci) (T := av_T ci) (N := av_N ci) (n := av_N ci) hts (av_lay ci hc) (hts _ (av_inst ci hc).1)
      exact ⟨(c, i), fun _ => hk⟩
    · exact ⟨(0, fun _ => 0), fun q => absurd q hc⟩
  obtain ⟨f, hf⟩ := Classical.axiomOfChoice h
  exact ⟨(fun ci => (f ci).1, fun ci => (f ci).2), hf⟩
theorem av_arrOf {s0 : State} {c : ClassId} {k : Class} {comp : ClassId} {ty : FieldType} (h2 : s0.vm.classes[c]? = some k) (h3 : k.kind = .array comp ty) : ArrOfT s0 c ty := fun n z => ⟨fun k h => (by cases h), k, h2, comp, h3⟩
set_option maxRecDepth 100000 in
set_option maxHeartbeats 4000000 in
theorem av_ka0 {a0 : Array Value} {s0 : State} (hts : ∀ w ∈ lw_tbl, w.before a0 s0 = true) : ∃ TY : Nat → ClassId, ∀ k ∈ [20, 21, 22, 30, 31, 32], ArrOfT s0 (TY k) (av_ft k) ∧ va_RA s0 (TY k) (av_ft k) := by
  have prim : ∀ ty : FieldType, (∀ C, ty ≠ .object C) → Cond.arrayClass ty ∈ lw_tbl → ∃ c, ArrOfT s0 c ty ∧ va_RA s0 c ty := by
    intro ty hn hw
    obtain ⟨c, k, comp, h1, h2, h3⟩ := Cond.arrayClass_spec (hts _ hw)
    refine ⟨c, av_arrOf h2 h3, ?_⟩
    cases ty <;> first | exact h1 | exact absurd rfl (hn _)
  have obj : ∀ C : String, Cond.arrayOver (.object C) ∈ lw_tbl → ∃ c, ArrOfT s0 c (.object C) ∧ va_RA s0 c (.object C) := by
    intro C hw
    obtain ⟨comp, c, k, h1, h2, h3, h4, h5⟩ := Cond.arrayOver_spec (hts _ hw)
    exact ⟨c, av_arrOf h3 h4, k, comp, h3, h4, h1, h5⟩
  obtain ⟨c20, p20⟩ := prim .int (fun _ h => by cases h) av_f_acI
  obtain ⟨c21, p21⟩ := prim .byte (fun _ h => by cases h) av_f_ac_byte
  obtain ⟨c22, p22⟩ := prim .boolean (fun _ h => by cases h) av_f_ac_boolean
  obtain ⟨c30, p30⟩ := obj RX1 (av_mem (i := 66) rfl)
  obtain ⟨c31, p31⟩ := obj RX5 (av_mem (i := 96) rfl)
  obtain ⟨comp, c32, k, h1, h2, h3, h4, h5⟩ := arrayOverA_spec (hts _ av_f_ovA)
  refine ⟨fun k => if k = 20 then c20 else if k = 21 then c21 else if k = 22 then c22 else if k = 30 then c30 else if k = 31 then c31 else c32, fun k hk => ?_⟩
  simp only [List.mem_cons, List.not_mem_nil, or_false] at hk
  rcases hk with rfl | rfl | rfl | rfl | rfl | rfl
  · exact p20
  · exact p21
  · exact p22
  · exact p30
  · exact p31
  · exact ⟨av_arrOf h3 h4, h5⟩
set_option maxRecDepth 100000 in
set_option maxHeartbeats 4000000 in
theorem av_start {p : Program} {s : State} {m : MethodId} {meth : Method} {c : Code} {b L : Nat} {xs : Nat → Int32} (hL : L < 2 ^ 31) (C0 : lw_At p s m meth c b L xs) : ∃ (D : va_G) (TY : Nat → ClassId) (kr ad : Nat → Nat), av_Z #[Value.ref b] s D TY ∧ av_Gl s kr ad (some (L, fun j => (xs j).toInt)) ∧ av_Gl s kr ad none ∧ kr 100 = b := by
  obtain ⟨hx, hb, hr, hml, hown, hts, hX, hbl, hlocks, hgv⟩ := C0
  obtain ⟨D, hD⟩ := av_kn0 hts
  obtain ⟨TY, hTY⟩ := av_ka0 hts
  have hfl := av_fl_of hgv
  have hA : ∀ a : Nat, a < s.heap.size → ¬ (fun q => s.heap.size ≤ q) a := fun a ha q => absurd q (Nat.not_le.mpr ha)
  have h0 : ∀ i : Nat, ∃ q : Nat × Nat, i < 20 → (av_tm i).eval #[Value.ref b] s none [] s = some (.ref q.1) ∧ va_O "java/lang/String" q.1 (fun q => s.heap.size ≤ q) s s.heap ∧ va_OF "java/lang/String" "coder" "B" (.int 0) q.1 (fun q => s.heap.size ≤ q) s s.heap ∧ va_OF "java/lang/String" "value" "[B" (.ref q.2) q.1 (fun q => s.heap.size ≤ q) s s.heap ∧ va_T .byte q.2 (av_lit i).length (fun j => .int (Int32.ofInt ((av_lit i).getD j 0))) (fun q => s.heap.size ≤ q) s s.heap := by
    intro i
    by_cases hi : i < 20
    · obtain ⟨a, c, cA, kA, q1, q2, q3, q4, q5, q6, -⟩ := Cond.exactly_spec (args := #[Value.ref b]) (first := s) (o := none) (s := s) (idx := []) (t := av_tm i) (cls := "java/lang/String") (hfl _ (av_g_ex i hi))
      obtain ⟨t, ht, hT⟩ := va_Tof (f := fun j => .int (Int32.ofInt ((av_lit i).getD j 0))) (A := fun q => s.heap.size ≤ q) (av_ascii i hi).1 (hfl _ (av_g_ar i hi)) (va_eqt (hfl _ (av_g_le i hi))) (fun j hj => va_eqt (hfl _ (av_g_el i hi j hj))) hA
      exact ⟨(a, t), fun _ => ⟨q1, ⟨cA, q3, q5, by rw [q6]; exact q2, hA a (Array.getElem?_eq_some_iff.mp q3).1⟩, vk_OFof q1 (va_eqt (hfl _ (av_g_co i hi))) hA, vk_OFof q1 ht hA, hT⟩⟩
    · exact ⟨(0, 0), fun h => absurd h hi⟩
  obtain ⟨f, hf⟩ := Classical.axiomOfChoice h0
  obtain ⟨pl, hpl, hplT⟩ := va_Tof (tm := .static "CrossingWords" "PLAIN_LAW" "[I") (ty := .int) (N := 14) (f := fun j => .int (Int32.ofInt (av_plain j))) (A := fun q => s.heap.size ≤ q) (by decide) (hfl _ (by decide +kernel)) (va_eqt (hfl _ (by decide +kernel))) (fun j hj => va_eqt (hfl _ (av_g_pe j hj))) hA
  suffices hG : av_Gl s (fun k => if k < 20 then (f k).1 else if k = 100 then b else pl) (fun k => (f k).2) (some (L, fun j => (xs j).toInt)) from ⟨D, TY, _, _, ⟨hts, hD, hTY⟩, hG, ⟨trivial, hG.2⟩, rfl⟩
  refine ⟨?_, ?_, ?_, ?_⟩
  · refine ⟨?_, hbl, hL⟩
    show va_X b L (fun j => Int32.ofInt ((xs j).toInt)) s s.heap
    simpa only [Int32.ofInt_toInt] using hX
  · exact ⟨va_Zof (hts _ (av_mem (i := 549) rfl)) (hts _ (av_inst 7 (by decide)).2) hpl hA, hplT⟩
  · refine ⟨fun k hk => ?_, va_Zof (hts _ (av_mem (i := 383) rfl)) (hts _ (av_mem (i := 13) rfl)) (va_eqi (hfl _ (by decide +kernel))) hA, va_Zqof (hts _ (av_mem (i := 399) rfl)) (hts _ (av_mem (i := 15) rfl)) (hfl _ (by decide +kernel)) hA⟩
    have := hf k hk
    simp only [if_pos hk]
    exact this.2
  · intro q hq
    have go : ∀ k, k < 20 → ∀ (own idx : Nat) (cn tx : String), av_cn own = cn → av_tm k = .string cn idx → Cond.stringRef cn idx tx ∈ lw_tbl → vk_R (av_cn own) idx tx (if k < 20 then (f k).1 else if k = 100 then b else pl) s := by
      intro k hk own idx cn tx e1 e2 hw
      rw [if_pos hk, e1]
      have h1 := (hf k hk).1
      rw [e2] at h1
      exact vk_R.of (hts _ hw) h1
    simp only [av_strs, List.mem_cons, List.not_mem_nil, or_false] at hq
    rcases hq with rfl | rfl | rfl | rfl | rfl | rfl | rfl | rfl | rfl | rfl | rfl | rfl | rfl | rfl | rfl | rfl | rfl | rfl | rfl | rfl
    · exact go 0 (by decide) _ _ _ _ rfl rfl av_g_sr0
    · exact go 1 (by decide) _ _ _ _ rfl rfl av_g_sr1
    · exact go 2 (by decide) _ _ _ _ rfl rfl av_g_sr2
    · exact go 3 (by decide) _ _ _ _ rfl rfl av_g_sr3
    · exact go 4 (by decide) _ _ _ _ rfl rfl av_g_sr4
    · exact go 5 (by decide) _ _ _ _ rfl rfl av_g_sr5
    · exact go 6 (by decide) _ _ _ _ rfl rfl av_g_sr6
    · exact go 7 (by decide) _ _ _ _ rfl rfl av_g_sr7
    · exact go 8 (by decide) _ _ _ _ rfl rfl av_g_sr8
    · exact go 9 (by decide) _ _ _ _ rfl rfl av_g_sr9
    · exact go 10 (by decide) _ _ _ _ rfl rfl av_g_sr10
    · exact go 11 (by decide) _ _ _ _ rfl rfl av_g_sr11
    · exact go 12 (by decide) _ _ _ _ rfl rfl av_g_sr12
    · exact go 13 (by decide) _ _ _ _ rfl rfl av_g_sr13
    · exact go 14 (by decide) _ _ _ _ rfl rfl av_g_sr14
    · exact go 15 (by decide) _ _ _ _ rfl rfl av_g_sr15
    · exact go 16 (by decide) _ _ _ _ rfl rfl av_g_sr16
    · exact go 17 (by decide) _ _ _ _ rfl rfl av_g_sr17
    · exact go 18 (by decide) _ _ _ _ rfl rfl av_g_sr18
    · exact go 19 (by decide) _ _ _ _ rfl rfl av_g_sr19
/-- the heap at the start: no cell of ours -/
def av_h0 : av_H := (0, 0, fun _ => (99, 0), fun _ _ => 0, fun _ _ => 0, fun _ _ => none, fun _ _ => none, ())
set_option maxRecDepth 100000 in
set_option maxHeartbeats 4000000 in
theorem whole_of {p : Program} {e : Env} {s : State} {m : MethodId} {below : List Frame} {meth : Method} {c : Code} (l : Launch) {b L : Nat} {xs : Nat → Int32} (hL : L < 2 ^ 31) (C0 : lw_At p s m meth c b L xs) (n : Nat) (hf : av_H) (hrun : av_run av_PP (some (L, fun j => (xs j).toInt)) n cd_L 0 (av_ent 4 [.inr (.inr (.inr 100))]) [] av_h0 = some (some (.inl 1), hf)) (hc : hf.1 ≤ 600000) (hs : hf.2.1 ≤ 7302250) :
    W p l e room_1 s m #[Value.ref b] below meth c s.heap [] 0 0 (lw_Z below #[Value.ref b] s) (entryFrame m ([Value.ref b] : List Value).toArray 4) := by
  obtain ⟨D, TY, kr, ad, hZ, hG, hG0, hk⟩ := av_start hL C0
  obtain ⟨hx, hb, hr, hml, hown, hts, hX, hbl, hlocks, hgv⟩ := id C0
  have C : av_Cx p room_1 s m meth c #[Value.ref b] s D TY ms_L.1 ms_L.2.2.2.1 ms_L.2.2.1 (decide (ms_L.2.2.2.2.2.1 = 1)) av_h0 hf :=
    ⟨hx, hb, hml, hown, State.WarmedH.refl s, hZ, (fun h => by cases h), hc, hs⟩
  have hall := av_all (l := l) av_good hZ hG0 n (some (L, fun j => (xs j).toInt)) hG p e room_1 s m #[Value.ref b] below meth c (lw_Z below #[Value.ref b] s) ms_L av_h0 hf av_h0 0 (av_ent 4 [.inr (.inr (.inr 100))]) [] (some (.inl 1)) dk_L C rfl rfl ?_ hrun
  · have hw := hall s.heap [] _ ⟨rfl, fun _ _ => rfl, trivial, fun k hk => absurd hk (Nat.not_lt_zero _)⟩ (fun q hq => by cases hq) (av_entry (z := s.heap.size) (kr := kr) (vs := [.inr (.inr (.inr 100))]) (by decide)) (Nat.le_refl _) (Nat.le_refl _)
    have hev : ([.inr (.inr (.inr 100))] : List av_V).map (av_ev s.heap.size kr) = [Value.ref b] := by
      show [Value.ref (kr 100)] = _
      rw [hk]
    rw [hev] at hw
    rw [lg_entry_eq]
    exact hw
  · intro pc' lv' ins hdg hk' H locs ls hR hl hLr _ _
    have hin : ins = .ireturn := by
      rcases hk' with ⟨_, q, _⟩ | ⟨q, _⟩ | ⟨_, q, e1, _⟩
      · cases q
      · exact q
      · cases e1
    subst hin
    refine W.widen (k := 600000) (n := 7302250) (by show hf.1 - 0 ≤ _; omega) (by show hf.2.1 - 0 ≤ _; omega) ?_
    have := W.forget (locs := []) hl (lw_ret (p := p) (l := l) (e := e) (s := s) (m := m) (below := below) (meth := meth) (c := c) (b := b) hx hb hr hlocks (pc := pc') (H := H) (ls := ls) hdg)
    rw [List.nil_append] at this
    exact this
