/-! EVERY STEP -/
/-- the literals: at which place of which pool each stands -/
def av_strs : List (Nat × Nat × Nat × String) := [(2, 66, 0, "offer ask yes no back deed send"), (2, 72, 1, "a b c"), (2, 123, 2, "price much day port court"), (2, 116, 3, "hold"), (2, 121, 4, "given"), (2, 84, 5, "but"), (2, 125, 6, "post wire mouth deed"), (2, 127, 7, "at"), (2, 143, 8, "to"), (2, 137, 9, "after"), (2, 139, 10, "read"), (2, 141, 11, "lost"), (4, 41, 12, "yes offer back no hold lapse silence but form deed risk"), (4, 69, 13, "post wire mouth all"), (4, 50, 14, "sent come read"), (4, 52, 15, "free binds"), (4, 58, 16, "no small"), (4, 60, 17, "first last none"), (4, 62, 18, "none yes"), (4, 64, 19, "bargain sent come")]
def av_len (x : av_E) : Nat := match x.1 with
  | .tableswitch _ _ _ _ => x.2.1
  | .lookupswitch _ _ => x.2.1
  | .bipush _ => 2
  | .sipush _ => 3
  | .ldc _ => 2
  | .ldc_w _ => 3
  | .ldc2_w _ => 3
  | .iload _ => 2
  | .aload _ => 2
  | .lload _ => 2
  | .istore _ => 2
  | .astore _ => 2
  | .iinc _ _ => 3
  | .goto _ => 3
  | .ifCond _ _ => 3
  | .if_icmp _ _ => 3
  | .ifnull _ => 3
  | .ifnonnull _ => 3
  | .getfield _ => 3
  | .putfield _ => 3
  | .getstatic _ => 3
  | .newarray _ => 2
  | .anewarray _ => 3
  | .multianewarray _ _ => 4
  | .new _ => 3
  | .checkcast _ => 3
  | .invokevirtual _ => 3
  | .invokespecial _ => 3
  | .invokestatic _ => 3
  | _ => 1
def av_lkP (own a idx : Nat) : Prop := match a with
  | 1000 => Cond.methodLink (av_cn own) idx Lib.objectInit ∈ lw_tbl
  | 1001 => Cond.methodLink (av_cn own) idx Lib.Math.max.name ∈ lw_tbl
  | 1002 => Cond.methodLink (av_cn own) idx Lib.Math.min.name ∈ lw_tbl
  | 1003 => Cond.methodLink (av_cn own) idx arraycopyName ∈ lw_tbl
  | 1004 => Cond.methodLink (av_cn own) idx ⟨"[I", "clone", "()Ljava/lang/Object;"⟩ ∈ lw_tbl
  | 1005 => Cond.methodLink (av_cn own) idx sm_y_len ∈ lw_tbl
  | 1006 => Cond.methodLink (av_cn own) idx sm_y_chr ∈ lw_tbl
  | _ => False
/-- an entry of a method's code is what the bytes say, and its links are the tables' -/
def av_ok (own : Nat) (cc : ByteArray) (ini : Bool) (fr lo pc : Nat) (x : av_E) : Prop := decode cc pc = .ok (x.1, av_len x) ∧ (match x.1 with
  | .bipush n => (Int8.ofInt n).toInt32 = Int32.ofInt n
  | .sipush n => (Int16.ofInt n).toInt32 = Int32.ofInt n
  | .ldc idx => (x.2.2.1 = 0 ∧ Cond.constant (av_cn own) idx (Int32.ofInt x.2.2.2.2.2) ∈ lw_tbl) ∨ (¬ x.2.2.1 = 0 ∧ ∃ tx, (own, idx, x.2.2.2.1, tx) ∈ av_strs)
  | .ldc_w idx => Cond.constant (av_cn own) idx (Int32.ofInt x.2.2.2.2.2) ∈ lw_tbl
  | .ldc2_w idx => Cond.constantLong (av_cn own) idx (Int64.ofInt x.2.2.2.2.2) ∈ lw_tbl
  | .goto off => (pc : Int) + off = (x.2.2.1 : Int)
  | .ifCond _ off => (pc : Int) + off = (x.2.2.1 : Int)
  | .if_icmp _ off => (pc : Int) + off = (x.2.2.1 : Int)
  | .ifnull off => (pc : Int) + off = (x.2.2.1 : Int)
  | .ifnonnull off => (pc : Int) + off = (x.2.2.1 : Int)
  | .tableswitch d low high offs => 0 ≤ (pc : Int) + d ∧ (∀ q ∈ offs.toList, 0 ≤ (pc : Int) + q) ∧ high - low < offs.toList.length
  | .lookupswitch d ps => (ps.toList.zip (ps.toList.drop 1)).all (fun (a, next) => a.1 < next.1) = true ∧ 0 ≤ (pc : Int) + d ∧ ∀ q ∈ ps.toList, 0 ≤ (pc : Int) + q.2
  | .getfield idx => x.2.2.1 < 9 ∧ x.2.2.2.1 < av_N x.2.2.1 ∧ x.2.2.2.2.1 = av_tg (av_ty x.2.2.1 x.2.2.2.1) ∧ av_FL own idx x.2.2.1 x.2.2.2.1
  | .putfield idx => x.2.2.1 < 9 ∧ x.2.2.2.1 < av_N x.2.2.1 ∧ x.2.2.2.2.1 = av_tg (av_ty x.2.2.1 x.2.2.2.1) ∧ (x.2.2.2.2.1 = 0 → av_ty x.2.2.1 x.2.2.2.1 = .int) ∧ av_FL own idx x.2.2.1 x.2.2.2.1 ∧
    ((av_T x.2.2.1 x.2.2.2.1).2.2.2 = false ∨ (own = x.2.2.1 ∧ (av_T x.2.2.1 x.2.2.2.1).1 = av_cn x.2.2.1 ∧ ini = true ∧ Cond.fieldLink (av_cn own) idx (av_T x.2.2.1 x.2.2.2.1).1 (av_T x.2.2.1 x.2.2.2.1).2.1 (av_T x.2.2.1 x.2.2.2.1).2.2.1 ∈ lw_tbl))
  | .getstatic idx => ∃ host, Cond.fieldLinkNest (av_cn own) idx RX7 "PLAIN_LAW" "[I" host ∈ lw_tbl
  | .newarray t => Cond.arrayClass (newarray.typeOf t) ∈ lw_tbl
  | .anewarray idx => ∃ C0, av_ft x.2.2.1 = .object C0 ∧ Cond.classLink (av_cn own) idx C0 ∈ lw_tbl ∧ Cond.arrayOver (.object C0) ∈ lw_tbl
  | .multianewarray idx d => d = 2 ∧ Cond.classLink (av_cn own) idx "[[I" ∈ lw_tbl
  | .new idx => x.2.2.1 < 9 ∧ Cond.classLink (av_cn own) idx (av_cn x.2.2.1) ∈ lw_tbl
  | .checkcast idx => Cond.classLink (av_cn own) idx "[I" ∈ lw_tbl
  | .invokespecial idx => 1000 ≤ x.2.2.1 → x.2.2.1 = 1000 ∧ av_lkP own 1000 idx ∧ 1 ≤ fr ∧ 40 ≤ lo
  | .invokestatic idx => 1000 ≤ x.2.2.1 → (x.2.2.1 = 1001 ∨ x.2.2.1 = 1002 ∨ x.2.2.1 = 1003) ∧ av_lkP own x.2.2.1 idx ∧ 1 ≤ fr ∧ 40 ≤ lo
  | .invokevirtual idx => 1000 ≤ x.2.2.1 → (x.2.2.1 = 1004 ∨ x.2.2.1 = 1005 ∨ x.2.2.1 = 1006) ∧ av_lkP own x.2.2.1 idx ∧ 4 ≤ fr ∧ 120 ≤ lo
  | _ => True)
/-- what the start holds that no cell of ours is -/
def av_Gl (s0 : State) (kr ad : Nat → Nat) (sc : av_Sr) : Prop := av_Sc s0 kr sc ∧ av_Pl s0 kr ∧ av_Str s0 kr ad ∧ ∀ q ∈ av_strs, vk_R (av_cn q.1) q.2.1 q.2.2.2 (kr q.2.2.1) s0
set_option maxRecDepth 100000 in
theorem av_f_oi : Cond.instanceMethod Lib.objectInit ∈ lw_tbl := av_mem (i := 24) rfl
set_option maxRecDepth 100000 in
theorem av_f_oc : Cond.code Lib.objectInit ⟨#[0xb1]⟩ 1 none ∈ lw_tbl := av_mem (i := 25) rfl
set_option maxRecDepth 100000 in
theorem av_f_ovA : Cond.arrayOver (.array .int) ∈ lw_tbl := av_mem (i := 68) rfl
set_option maxRecDepth 100000 in
theorem av_f_acI : Cond.arrayClass .int ∈ lw_tbl := av_mem (i := 95) rfl
set_option maxRecDepth 100000 in
theorem av_f_maxs : Cond.static Lib.Math.max.name ∈ lw_tbl := av_mem (i := 156) rfl
set_option maxRecDepth 100000 in
theorem av_f_maxc : Cond.code Lib.Math.max.name Lib.Math.max.code 2 (some .int) ∈ lw_tbl := av_mem (i := 157) rfl
set_option maxRecDepth 100000 in
theorem av_f_mins : Cond.static Lib.Math.min.name ∈ lw_tbl := av_mem (i := 150) rfl
set_option maxRecDepth 100000 in
theorem av_f_minc : Cond.code Lib.Math.min.name Lib.Math.min.code 2 (some .int) ∈ lw_tbl := av_mem (i := 151) rfl
set_option maxRecDepth 100000 in
theorem av_f_mi : Cond.initialized "java/lang/Math" ∈ lw_tbl := av_mem (i := 9) rfl
set_option maxRecDepth 100000 in
theorem av_f_si : Cond.initialized "java/lang/System" ∈ lw_tbl := av_mem (i := 10) rfl
set_option maxRecDepth 100000 in
theorem av_f_acn : Cond.native arraycopyName ∈ lw_tbl := av_mem (i := 154) rfl
set_option maxRecDepth 100000 in
theorem av_f_acs : Cond.static arraycopyName ∈ lw_tbl := av_mem (i := 153) rfl
set_option maxRecDepth 100000 in
theorem av_f_cls : Cond.sameMethod "[I" "java/lang/Object" "clone" "()Ljava/lang/Object;" ∈ lw_tbl := av_mem (i := 143) rfl
set_option maxRecDepth 100000 in
theorem av_f_cln : Cond.native ⟨"java/lang/Object", "clone", "()Ljava/lang/Object;"⟩ ∈ lw_tbl := av_mem (i := 144) rfl
set_option maxRecDepth 100000 in
theorem av_f_cli : Cond.instanceMethod ⟨"java/lang/Object", "clone", "()Ljava/lang/Object;"⟩ ∈ lw_tbl := av_mem (i := 145) rfl
set_option maxRecDepth 100000 in
theorem av_f_cle : Cond.selects "[I" ⟨"[I", "clone", "()Ljava/lang/Object;"⟩ ⟨"java/lang/Object", "clone", "()Ljava/lang/Object;"⟩ ∈ lw_tbl := av_mem (i := 146) rfl
set_option maxRecDepth 100000 in
theorem av_f_clc : Cond.castable "[I" "java/lang/Cloneable" ∈ lw_tbl := av_mem (i := 147) rfl
set_option maxRecDepth 100000 in
theorem av_f_leni : Cond.instanceMethod sm_y_len ∈ lw_tbl := av_mem (i := 375) rfl
set_option maxRecDepth 100000 in
theorem av_f_lene : Cond.selects "java/lang/String" sm_y_len sm_y_len ∈ lw_tbl := av_mem (i := 376) rfl
set_option maxRecDepth 100000 in
theorem av_f_lenc : Cond.code sm_y_len sm_c_len 1 (some .int) ∈ lw_tbl := av_mem (i := 377) rfl
set_option maxRecDepth 100000 in
theorem av_f_chri : Cond.instanceMethod sm_y_chr ∈ lw_tbl := av_mem (i := 385) rfl
set_option maxRecDepth 100000 in
theorem av_f_chre : Cond.selects "java/lang/String" sm_y_chr sm_y_chr ∈ lw_tbl := av_mem (i := 386) rfl
set_option maxRecDepth 100000 in
theorem av_f_chrc : Cond.code sm_y_chr sm_c_chr 2 (some .char) ∈ lw_tbl := av_mem (i := 387) rfl
set_option maxRecDepth 100000 in
theorem av_f_sti : Cond.initialized "java/lang/String" ∈ lw_tbl := av_mem (i := 13) rfl
theorem av_loff {ps : List (Int × Int)} {d v z : Int} (h1 : 0 ≤ z + d) (h2 : ∀ q ∈ ps, 0 ≤ z + q.2) : 0 ≤ z + Op.lookupswitch.offset ps d v := by
  induction ps with
  | nil => exact h1
  | cons q r ih =>
    obtain ⟨a, o⟩ := q
    simp only [Op.lookupswitch.offset]
    split
    · exact h2 (a, o) List.mem_cons_self
    · exact ih (fun q hq => h2 q (List.mem_cons_of_mem _ hq))
section AVE
variable {p : Program} {l : Launch} {e : Env} {R : Room} {s : State} {m : MethodId} {args : Array Value} {below : List Frame} {meth : Method} {c : Code} {Q : State → Prop}
variable {a0 : Array Value} {s0 : State} {D : va_G} {TY : Nat → ClassId} {kr ad : Nat → Nat} {sc : av_Sr} {own nL fr lo : Nat} {cc : ByteArray} {ini : Bool} {h0 hf h h' : av_H} {pc pc' : Nat} {lv lv' : av_L} {st st' : List av_V}

set_option maxHeartbeats 2000000 in
theorem av_step {x : av_E} (C : av_Cx p R s m meth c a0 s0 D TY own nL cc ini h0 hf) (G : av_Gl s0 kr ad sc) (hfr : R.frames = fr) (hlo : R.locals = lo) (hok : av_ok own cc ini fr lo pc x) (hkd : av_kd x = 0) (hs : av_stp sc x pc lv st h = some (pc', lv', st', h')) (hle : h'.1 ≤ hf.1 ∧ h'.2.1 ≤ hf.2.1) (k : av_W p l e R s m args below meth c Q s0 D TY kr sc nL h0 pc' lv' st' h') : av_W p l e R s m args below meth c Q s0 D TY kr sc nL h0 pc lv st h := by
  obtain ⟨ins, ln, xa, xb, xc, xk⟩ := x
  cases ins with
  | iconst n =>
    simp only [av_ok, av_len] at hok
    cases hs
    exact av_s_iconst C hok.1 k
  | bipush n =>
    simp only [av_ok, av_len] at hok
    cases hs
    exact av_s_bipush C hok.1 hok.2 k
  | sipush n =>
    simp only [av_ok, av_len] at hok
    cases hs
    exact av_s_sipush C hok.1 hok.2 k
  | lconst n =>
    simp only [av_ok, av_len] at hok
    cases hs
    exact av_s_lconst C hok.1 k
  | aconst_null =>
    simp only [av_ok, av_len] at hok
    cases hs
    exact av_s_null C hok.1 k
  | ldc n =>
    simp only [av_ok, av_len] at hok
    rcases hok.2 with ⟨q1, q2⟩ | ⟨q1, tx, q2⟩
    · simp only [av_stp, if_pos q1] at hs
      cases hs
      exact av_s_ldc C hok.1 q2 k
    · simp only [av_stp, if_neg q1] at hs
      cases hs
      have q3 := G.2.2.2 (own, n, xb, tx) q2
      exact av_s_ldcS C hok.1 q3 k
  | ldc_w n =>
    simp only [av_ok, av_len] at hok
    cases hs
    exact av_s_ldcw C hok.1 hok.2 k
  | ldc2_w n =>
    simp only [av_ok, av_len] at hok
    cases hs
    exact av_s_ldc2 C hok.1 hok.2 k
  | iload_n i =>
    simp only [av_ok, av_len] at hok
    exact av_s_iload_n C hok.1 hs k
  | iload i =>
    simp only [av_ok, av_len] at hok
    exact av_s_iload C hok.1 hs k
  | aload_n i =>
    simp only [av_ok, av_len] at hok
    exact av_s_aload_n C hok.1 hs k
  | aload i =>
    simp only [av_ok, av_len] at hok
    exact av_s_aload C hok.1 hs k
  | lload_n i =>
    simp only [av_ok, av_len] at hok
    exact av_s_lload_n C hok.1 hs k
  | lload i =>
    simp only [av_ok, av_len] at hok
    exact av_s_lload C hok.1 hs k
  | istore_n i =>
    simp only [av_ok, av_len] at hok
    exact av_s_istore_n C hok.1 hs k
  | istore i =>
    simp only [av_ok, av_len] at hok
    exact av_s_istore C hok.1 hs k
  | astore_n i =>
    simp only [av_ok, av_len] at hok
    exact av_s_astore_n C hok.1 hs k
  | astore i =>
    simp only [av_ok, av_len] at hok
    exact av_s_astore C hok.1 hs k
  | iinc i n =>
    simp only [av_ok, av_len] at hok
    exact av_s_iinc C hok.1 hs k
  | iadd =>
    simp only [av_ok, av_len] at hok
    exact av_s_iadd C hok.1 hs k
  | isub =>
    simp only [av_ok, av_len] at hok
    exact av_s_isub C hok.1 hs k
  | imul =>
    simp only [av_ok, av_len] at hok
    exact av_s_imul C hok.1 hs k
  | iand =>
    simp only [av_ok, av_len] at hok
    exact av_s_iand C hok.1 hs k
  | ior =>
    simp only [av_ok, av_len] at hok
    exact av_s_ior C hok.1 hs k
  | ishl =>
    simp only [av_ok, av_len] at hok
    exact av_s_ishl C hok.1 hs k
  | ishr =>
    simp only [av_ok, av_len] at hok
    exact av_s_ishr C hok.1 hs k
  | iushr =>
    simp only [av_ok, av_len] at hok
    exact av_s_iushr C hok.1 hs k
  | idiv =>
    simp only [av_ok, av_len] at hok
    simp only [av_stp] at hs
    split at hs
    · split at hs
      · cases hs
      · next q =>
        cases hs
        exact av_s_idiv C hok.1 q k
    · cases hs
  | irem =>
    simp only [av_ok, av_len] at hok
    simp only [av_stp] at hs
    split at hs
    · split at hs
      · cases hs
      · next q =>
        cases hs
        exact av_s_irem C hok.1 q k
    · cases hs
  | ladd =>
    simp only [av_ok, av_len] at hok
    simp only [av_stp] at hs
    split at hs
    · cases hs
      exact av_s_ladd C hok.1 k
    · cases hs
  | lmul =>
    simp only [av_ok, av_len] at hok
    simp only [av_stp] at hs
    split at hs
    · cases hs
      exact av_s_lmul C hok.1 k
    · cases hs
  | lcmp =>
    simp only [av_ok, av_len] at hok
    simp only [av_stp] at hs
    split at hs
    · cases hs
      exact av_s_lcmp C hok.1 k
    · cases hs
  | i2l =>
    simp only [av_ok, av_len] at hok
    simp only [av_stp] at hs
    split at hs
    · cases hs
      exact av_s_i2l C hok.1 k
    · cases hs
  | l2i =>
    simp only [av_ok, av_len] at hok
    simp only [av_stp] at hs
    split at hs
    · cases hs
      exact av_s_l2i C hok.1 k
    · cases hs
  | i2b =>
    simp only [av_ok, av_len] at hok
    simp only [av_stp] at hs
    split at hs
    · cases hs
      exact av_s_i2b C hok.1 k
    · cases hs
  | dup =>
    simp only [av_ok, av_len] at hok
    simp only [av_stp] at hs
    split at hs
    · split at hs
      · next q =>
        cases hs
        exact av_s_dup C hok.1 q k
      · cases hs
    · cases hs
  | pop =>
    simp only [av_ok, av_len] at hok
    simp only [av_stp] at hs
    split at hs
    · split at hs
      · next q =>
        cases hs
        exact av_s_pop C hok.1 q k
      · cases hs
    · cases hs
  | dup2 =>
    simp only [av_ok, av_len] at hok
    simp only [av_stp] at hs
    split at hs
    · split at hs
      · next q =>
        cases hs
        exact av_s_dup2 C hok.1 q.1 q.2 k
      · cases hs
    · cases hs
  | goto off =>
    simp only [av_ok, av_len] at hok
    cases hs
    exact av_s_goto C hok.1 hok.2 k
  | ifCond c0 off =>
    simp only [av_ok, av_len] at hok
    simp only [av_stp] at hs
    split at hs
    · cases hs
      exact av_s_if C hok.1 hok.2 k
    · cases hs
  | if_icmp c0 off =>
    simp only [av_ok, av_len] at hok
    simp only [av_stp] at hs
    split at hs
    · cases hs
      exact av_s_icmp C hok.1 hok.2 k
    · cases hs
  | ifnull off =>
    simp only [av_ok, av_len] at hok
    simp only [av_stp] at hs
    split at hs
    · cases hs
      exact av_s_ifnull C hok.1 hok.2 k
    · cases hs
  | ifnonnull off =>
    simp only [av_ok, av_len] at hok
    simp only [av_stp] at hs
    split at hs
    · cases hs
      exact av_s_ifnonnull C hok.1 hok.2 k
    · cases hs
  | tableswitch d0 low high offs =>
    simp only [av_ok, av_len] at hok
    simp only [av_stp] at hs
    split at hs
    · cases hs
      exact av_s_table C hok.1 hok.2.1 hok.2.2.1 hok.2.2.2 k
    · cases hs
  | lookupswitch d0 ps =>
    simp only [av_ok, av_len] at hok
    simp only [av_stp] at hs
    split at hs
    · cases hs
      exact av_s_lookup C hok.1 hok.2.1 (av_loff hok.2.2.1 hok.2.2.2) k
    · cases hs
  | getfield idx =>
    simp only [av_ok, av_len] at hok
    exact av_s_getf C hok.1 hok.2.1 hok.2.2.1 hok.2.2.2.1 hok.2.2.2.2 hs k
  | putfield idx =>
    simp only [av_ok, av_len] at hok
    exact av_s_putf C hok.1 hok.2.1 hok.2.2.1 hok.2.2.2.1 hok.2.2.2.2.1 hok.2.2.2.2.2.1 hok.2.2.2.2.2.2 hs k
  | getstatic idx =>
    simp only [av_ok, av_len] at hok
    cases hs
    exact av_s_gets C G.2.1 hok.1 (Or.inr hok.2) k
  | iaload =>
    simp only [av_ok, av_len] at hok
    exact av_s_iald C G.1 hok.1 hs k
  | baload =>
    simp only [av_ok, av_len] at hok
    exact av_s_bald C hok.1 hs k
  | aaload =>
    simp only [av_ok, av_len] at hok
    exact av_s_aald C hok.1 hs k
  | iastore =>
    simp only [av_ok, av_len] at hok
    exact av_s_iast C hok.1 hs k
  | bastore =>
    simp only [av_ok, av_len] at hok
    exact av_s_bast C hok.1 hs k
  | aastore =>
    simp only [av_ok, av_len] at hok
    exact av_s_aast C hok.1 hs k
  | arraylength =>
    simp only [av_ok, av_len] at hok
    exact av_s_alen C G.1 hok.1 hs k
  | newarray t =>
    simp only [av_ok, av_len] at hok
    exact av_s_newa C hok.1 hok.2 hs hle k
  | anewarray idx =>
    simp only [av_ok, av_len] at hok
    obtain ⟨C0, q1, q2, q3⟩ := hok.2
    exact av_s_anew (x := (.anewarray idx, ln, xa, xb, xc, xk)) C hok.1 q1 q2 q3 hs hle k
  | multianewarray idx d0 =>
    simp only [av_ok, av_len] at hok
    obtain ⟨q1, q2⟩ := hok.2
    subst q1
    exact av_s_mnew C hok.1 q2 av_f_ovA av_f_acI hs hle k
  | new idx =>
    simp only [av_ok, av_len] at hok
    cases hs
    exact av_s_new (x := (.new idx, ln, xa, xb, xc, xk)) C hok.1 hok.2.1 hok.2.2 hle k
  | checkcast idx =>
    simp only [av_ok, av_len] at hok
    simp only [av_stp] at hs
    split at hs
    · split at hs
      · next q =>
        cases hs
        exact av_s_cast C hok.1 hok.2 q k
      · cases hs
    · cases hs
  | invokespecial idx =>
    simp only [av_ok, av_len] at hok
    have hk9 : 1000 ≤ xa := by
      simp only [av_kd] at hkd
      split at hkd
      · cases hkd
      · omega
    obtain ⟨q1, q2, q3, q4⟩ := hok.2 hk9
    have q1 : xa = 1000 := q1
    subst q1
    simp only [av_stp] at hs
    unfold av_lib at hs
    split at hs <;> first | (next he => exact absurd he (by decide)) | skip
    · split at hs
      · next q =>
        cases hs
        exact av_s_objInit C hok.1 q2 av_f_oi av_f_oc q (by rw [hfr]; exact q3) (by rw [hlo]; exact q4) k
      · cases hs
    all_goals first | (cases hs; done) | skip
  | invokestatic idx =>
    simp only [av_ok, av_len] at hok
    have hk9 : 1000 ≤ xa := by
      simp only [av_kd] at hkd
      split at hkd
      · cases hkd
      · omega
    obtain ⟨q1, q2, q3, q4⟩ := hok.2 hk9
    have hf1 : 1 ≤ R.frames := by rw [hfr]; exact q3
    have hl1 : 40 ≤ R.locals := by rw [hlo]; exact q4
    simp only [av_stp] at hs
    rcases q1 with q1 | q1 | q1
    · have q1 : xa = 1001 := q1
      subst q1
      unfold av_lib at hs
      split at hs <;> first | (next he => exact absurd he (by decide)) | skip
      · split at hs
        · next q =>
          cases hs
          exact av_s_max C hok.1 q2 av_f_maxs av_f_mi av_f_maxc q hf1 hl1 hle k
        · cases hs
      all_goals first | (cases hs; done) | skip
    · have q1 : xa = 1002 := q1
      subst q1
      unfold av_lib at hs
      split at hs <;> first | (next he => exact absurd he (by decide)) | skip
      · split at hs
        · next q =>
          cases hs
          exact av_s_min C hok.1 q2 av_f_mins av_f_mi av_f_minc q hf1 hl1 hle k
        · cases hs
      all_goals first | (cases hs; done) | skip
    · have q1 : xa = 1003 := q1
      subst q1
      unfold av_lib at hs
      split at hs <;> first | (next he => exact absurd he (by decide)) | skip
      · split at hs
        · next q =>
          cases hs
          exact av_s_copy C hok.1 q2 av_f_acn av_f_acs av_f_si q.1 hf1 hl1 q.2 k
        · cases hs
      · split at hs
        · next q =>
          cases hs
          exact av_s_copyP C G.2.1 hok.1 q2 av_f_acn av_f_acs av_f_si q.1 hf1 hl1 q.2 k
        · cases hs
      all_goals first | (cases hs; done) | skip
  | invokevirtual idx =>
    simp only [av_ok, av_len] at hok
    have hk9 : 1000 ≤ xa := by
      simp only [av_kd] at hkd
      split at hkd
      · cases hkd
      · omega
    obtain ⟨q1, q2, q3, q4⟩ := hok.2 hk9
    have hf1 : 4 ≤ R.frames := by rw [hfr]; exact q3
    have hl1 : 120 ≤ R.locals := by rw [hlo]; exact q4
    simp only [av_stp] at hs
    rcases q1 with q1 | q1 | q1
    · have q1 : xa = 1004 := q1
      subst q1
      unfold av_lib at hs
      split at hs <;> first | (next he => exact absurd he (by decide)) | skip
      · split at hs
        · next q =>
          cases hs
          exact av_s_clone C hok.1 q2 av_f_cls av_f_cln av_f_cli av_f_cle av_f_clc q.2 q.1 (by omega) (by omega) hle k
        · cases hs
      all_goals first | (cases hs; done) | skip
    · have q1 : xa = 1005 := q1
      subst q1
      unfold av_lib at hs
      split at hs <;> first | (next he => exact absurd he (by decide)) | skip
      · split at hs
        · next q =>
          cases hs
          exact av_s_len C G.2.2.1 hok.1 q2 av_f_leni av_f_lene av_f_lenc av_f_sti q.1 q.2 (by omega) (by omega) hle k
        · cases hs
      all_goals first | (cases hs; done) | skip
    · have q1 : xa = 1006 := q1
      subst q1
      unfold av_lib at hs
      split at hs <;> first | (next he => exact absurd he (by decide)) | skip
      · split at hs
        · next q =>
          cases hs
          exact av_s_chr C G.2.2.1 hok.1 q2 av_f_chri av_f_chre av_f_chrc av_f_sti q.1 q.2.1 q.2.2 (by omega) (by omega) hle k
        · cases hs
      all_goals first | (cases hs; done) | skip
  | _ =>
    simp only [av_stp] at hs
    cases hs
end AVE
