/-! EVERY RUN: what the small machine answers, the machine answers -/
theorem av_m_bin {f : Int → Int → Int} {pc pc' : Nat} {lv lv' : av_L} {st st' : List av_V} {h h' : av_H} (hs : av_bin f pc lv st h = some (pc', lv', st', h')) : h' = h := by
  unfold av_bin at hs
  split at hs
  · cases hs; rfl
  · cases hs
theorem av_m_ldi {i n pc pc' : Nat} {lv lv' : av_L} {st st' : List av_V} {h h' : av_H} (hs : av_ldi i n pc lv st h = some (pc', lv', st', h')) : h' = h := by
  unfold av_ldi at hs
  split at hs
  · cases hs; rfl
  · cases hs
theorem av_m_lda {i n pc pc' : Nat} {lv lv' : av_L} {st st' : List av_V} {h h' : av_H} (hs : av_lda i n pc lv st h = some (pc', lv', st', h')) : h' = h := by
  unfold av_lda at hs
  split at hs
  · cases hs; rfl
  · cases hs
theorem av_m_ldl {i n pc pc' : Nat} {lv lv' : av_L} {st st' : List av_V} {h h' : av_H} (hs : av_ldl i n pc lv st h = some (pc', lv', st', h')) : h' = h := by
  unfold av_ldl at hs
  split at hs
  · cases hs; rfl
  · cases hs
theorem av_m_sti {i n pc pc' : Nat} {lv lv' : av_L} {st st' : List av_V} {h h' : av_H} (hs : av_sti i n pc lv st h = some (pc', lv', st', h')) : h' = h := by
  unfold av_sti at hs
  split at hs
  · rw [Option.map_eq_some_iff] at hs
    obtain ⟨_, -, he⟩ := hs
    cases he; rfl
  · cases hs
theorem av_m_sta {i n pc pc' : Nat} {lv lv' : av_L} {st st' : List av_V} {h h' : av_H} (hs : av_sta i n pc lv st h = some (pc', lv', st', h')) : h' = h := by
  unfold av_sta at hs
  split at hs
  · rw [Option.map_eq_some_iff] at hs
    obtain ⟨_, -, he⟩ := hs
    cases he; rfl
  · cases hs
theorem av_m_iinc {i : Nat} {n : Int} {pc pc' : Nat} {lv lv' : av_L} {st st' : List av_V} {h h' : av_H} (hs : av_iinc i n pc lv st h = some (pc', lv', st', h')) : h' = h := by
  unfold av_iinc at hs
  split at hs
  · rw [Option.map_eq_some_iff] at hs
    obtain ⟨_, -, he⟩ := hs
    cases he; rfl
  · cases hs
/-- cells and slots only grow -/
abbrev av_gr (h h' : av_H) : Prop := h.1 ≤ h'.1 ∧ h.2.1 ≤ h'.2.1
theorem av_gr_of {h h' : av_H} (e : h' = h) : av_gr h h' := by
  rw [e]
  exact ⟨Nat.le_refl _, Nat.le_refl _⟩
theorem av_m_putf {x : av_E} {pc pc' : Nat} {lv lv' : av_L} {st st' : List av_V} {h h' : av_H} (hs : av_putf x pc lv st h = some (pc', lv', st', h')) : av_gr h h' := by
  unfold av_putf at hs
  split at hs
  · split at hs
    · cases hs; exact ⟨Nat.le_refl _, Nat.le_refl _⟩
    · cases hs
  · split at hs
    · cases hs; exact ⟨Nat.le_refl _, Nat.le_refl _⟩
    · cases hs
  · split at hs
    · cases hs; exact ⟨Nat.le_refl _, Nat.le_refl _⟩
    · cases hs
  · split at hs
    · cases hs; exact ⟨Nat.le_refl _, Nat.le_refl _⟩
    · cases hs
  · cases hs
theorem av_m_lib {a pc pc' : Nat} {lv lv' : av_L} {st st' : List av_V} {h h' : av_H} (hs : av_lib a pc lv st h = some (pc', lv', st', h')) : av_gr h h' := by
  unfold av_lib at hs
  split at hs
  · split at hs
    · cases hs; exact ⟨Nat.le_refl _, Nat.le_refl _⟩
    · cases hs
  · split at hs
    · cases hs; exact ⟨Nat.le_refl _, Nat.le_refl _⟩
    · cases hs
  · split at hs
    · cases hs; exact ⟨Nat.le_refl _, Nat.le_refl _⟩
    · cases hs
  · split at hs
    · cases hs; exact ⟨Nat.le_refl _, Nat.le_refl _⟩
    · cases hs
  · split at hs
    · cases hs; exact ⟨Nat.le_refl _, Nat.le_refl _⟩
    · cases hs
  · split at hs
    · cases hs; exact ⟨Nat.le_succ _, Nat.le_add_right _ _⟩
    · cases hs
  · split at hs
    · cases hs; exact ⟨Nat.le_refl _, Nat.le_refl _⟩
    · cases hs
  · split at hs
    · cases hs; exact ⟨Nat.le_refl _, Nat.le_refl _⟩
    · cases hs
  · cases hs
theorem av_m_stp {sc : av_Sr} {x : av_E} {pc pc' : Nat} {lv lv' : av_L} {st st' : List av_V} {h h' : av_H} (hs : av_stp sc x pc lv st h = some (pc', lv', st', h')) : av_gr h h' := by
  obtain ⟨ins, ln, xa, xb, xc, xk⟩ := x
  cases ins <;> simp only [av_stp] at hs
  all_goals first
    | (cases hs; done)
    | exact av_gr_of (av_m_bin hs)
    | exact av_gr_of (av_m_ldi hs)
    | exact av_gr_of (av_m_lda hs)
    | exact av_gr_of (av_m_ldl hs)
    | exact av_gr_of (av_m_sti hs)
    | exact av_gr_of (av_m_sta hs)
    | exact av_gr_of (av_m_iinc hs)
    | exact av_m_putf hs
    | exact av_m_lib hs
    | (cases hs; exact ⟨Nat.le_refl _, Nat.le_refl _⟩)
    | (cases hs; exact ⟨Nat.le_succ _, Nat.le_add_right _ _⟩)
    | skip
  all_goals first
    | unfold av_getf at hs
    | unfold av_ald at hs
    | unfold av_aald at hs
    | unfold av_iast at hs
    | unfold av_bast at hs
    | unfold av_aast at hs
    | unfold av_alen at hs
    | unfold av_newa at hs
    | unfold av_anew at hs
    | unfold av_mnew at hs
    | skip
  all_goals (repeat' split at hs)
  all_goals first
    | (cases hs; done)
    | (cases hs; exact ⟨Nat.le_refl _, Nat.le_refl _⟩)
    | (cases hs; exact ⟨Nat.le_succ _, Nat.le_add_right _ _⟩)
    | (cases hs; exact ⟨by show h.1 ≤ h.1 + 1 + _; omega, by show h.2.1 ≤ h.2.1 + _ + _; omega⟩)
theorem av_mono (P : av_P) : ∀ (n : Nat) (sc : av_Sr) (cd : List (Nat × av_E)) (pc : Nat) (lv : av_L) (st : List av_V) (h : av_H) (v : Option av_V) (h' : av_H), av_run P sc n cd pc lv st h = some (v, h') → av_gr h h' := by
  intro n
  induction n with
  | zero => intro sc cd pc lv st h v h' hs; simp [av_run] at hs
  | succ n ih =>
    intro sc cd pc lv st h v h' hs
    unfold av_run at hs
    split at hs
    · cases hs
    · next x hx =>
      split at hs
      · split at hs
        · cases hs
        · next pc1 lv1 st1 h1 hs1 =>
          have e1 := av_m_stp hs1
          have e2 := ih _ _ _ _ _ _ _ _ hs
          exact ⟨Nat.le_trans e1.1 e2.1, Nat.le_trans e1.2 e2.2⟩
      · unfold av_ret at hs
        split at hs
        · cases hs; exact ⟨Nat.le_refl _, Nat.le_refl _⟩
        · split at hs
          · cases hs; exact ⟨Nat.le_refl _, Nat.le_refl _⟩
          · cases hs
        · cases hs; exact ⟨Nat.le_refl _, Nat.le_refl _⟩
        · cases hs
      · split at hs
        · split at hs
          · split at hs
            · cases hs
            · next v1 h1 hs1 =>
              have e1 := ih _ _ _ _ _ _ _ _ hs1
              have e2 := ih _ _ _ _ _ _ _ _ hs
              exact ⟨Nat.le_trans e1.1 e2.1, Nat.le_trans e1.2 e2.2⟩
          · cases hs
        · cases hs
/-- a method: its class's row, name, bytes, locals, what it returns, its kind (0 an object's, 1 a constructor, 2 static), how many arguments, frames and words that it needs, its code -/
abbrev av_Mr : Type := Nat × MethodName × ByteArray × Nat × Option FieldType × Nat × Nat × Nat × Nat × List (Nat × av_E)
def av_rtk (rt : Option FieldType) (ins : Instr) (v : Option av_V) : Prop :=
  (ins = .return_ ∧ v = none ∧ rt = none) ∨ (ins = .ireturn ∧ ∃ x, v = some (.inl x) ∧ (rt = some .int ∨ (rt = some .boolean ∧ (x = 0 ∨ x = 1)))) ∨ (ins = .areturn ∧ ∃ q, v = some (.inr (.inr (.inl q))) ∧ ∃ t, rt = some t ∧ ((∃ n, t = .object n) ∨ ∃ u, t = .array u))
/-- a return's entry says what the method returns -/
def av_rok (rt : Option FieldType) (x : av_E) : Prop := match x.1 with
  | .return_ => rt = none
  | .ireturn => (x.2.2.1 = 0 ∧ rt = some .int) ∨ (x.2.2.1 = 1 ∧ rt = some .boolean)
  | .areturn => ∃ t, rt = some t ∧ ((∃ n, t = .object n) ∨ ∃ u, t = .array u)
  | _ => True
/-- a call's entry names a method of the table, of its kind, by the tables' word or by the nest's, and there is room for it -/
def av_cok (T : Nat → Option av_Mr) (own fr lo : Nat) (x : av_E) : Prop := ∃ r : av_Mr, T x.2.2.1 = some r ∧ r.2.2.2.2.2.1 = x.2.2.2.2.1 ∧ r.2.2.2.2.2.2.1 = x.2.2.2.1 ∧ (r.1 : Int) = x.2.2.2.2.2 ∧ r.2.2.2.2.2.2.2.1 + 1 ≤ fr ∧ 8 + (r.2.2.2.1 + 11) + r.2.2.2.2.2.2.2.2.1 ≤ lo ∧
  (match x.1 with
  | .invokevirtual idx => x.2.2.2.2.1 = 0 ∧ Cond.methodLink (av_cn own) idx r.2.1 ∈ lw_tbl
  | .invokespecial idx => x.2.2.2.2.1 = 1 ∧ (Cond.methodLink (av_cn own) idx r.2.1 ∈ lw_tbl ∨ ∃ host, Cond.methodLinkNest (av_cn own) idx r.2.1 host ∈ lw_tbl)
  | .invokestatic idx => x.2.2.2.2.1 = 2 ∧ Cond.methodLink (av_cn own) idx r.2.1 ∈ lw_tbl
  | _ => True)
/-- a method's code is what its bytes say -/
def av_dok (T : Nat → Option av_Mr) (r : av_Mr) : Prop := ∀ q ∈ r.2.2.2.2.2.2.2.2.2, av_ok r.1 r.2.2.1 (decide (r.2.2.2.2.2.1 = 1)) r.2.2.2.2.2.2.2.1 r.2.2.2.2.2.2.2.2.1 q.1 q.2 ∧ av_rok r.2.2.2.2.1 q.2 ∧ (av_kd q.2 = 2 → av_cok T r.1 r.2.2.2.2.2.2.2.1 r.2.2.2.2.2.2.2.2.1 q.2)
/-- a method that may be called: what the tables say of it -/
def av_hok (r : av_Mr) : Prop := plainName r.2.1.cls = true ∧ av_cn r.1 = r.2.1.cls ∧ Cond.code r.2.1 r.2.2.1 r.2.2.2.1 r.2.2.2.2.1 ∈ lw_tbl ∧ Cond.initialized r.2.1.cls ∈ lw_tbl ∧ (r.2.1.cls ≠ "java/lang/invoke/MethodHandle" ∧ r.2.1.cls ≠ "java/lang/invoke/VarHandle") ∧ (parseMethodDescriptor r.2.1.desc).map (fun d => d.parameters.length) = some r.2.2.2.2.2.2.1 ∧
  ((r.2.2.2.2.2.1 = 0 ∧ r.1 < 9 ∧ Cond.instanceMethod r.2.1 ∈ lw_tbl ∧ Cond.selects r.2.1.cls r.2.1 r.2.1 ∈ lw_tbl) ∨ (r.2.2.2.2.2.1 = 1 ∧ r.2.1.name = "<init>" ∧ Cond.instanceMethod r.2.1 ∈ lw_tbl ∧ r.2.2.2.2.1 = none) ∨ (r.2.2.2.2.2.1 = 2 ∧ Cond.static r.2.1 ∈ lw_tbl))
def av_Good (T : Nat → Option av_Mr) : Prop := ∀ mi r, T mi = some r → av_dok T r ∧ av_hok r
def av_Pt (T : Nat → Option av_Mr) : av_P := fun mi => (T mi).map (fun r => (r.2.2.2.1, r.2.2.2.2.2.2.2.2.2))
