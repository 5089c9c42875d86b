/-! RUNS OF THE SMALL MACHINE, BY WHAT IS WANTED BEHIND THEM -/
theorem av_more (P : av_P) : ∀ (n : Nat) (sc : av_Sr) (cd : List (Nat × av_E)) (pc : Nat) (lv : av_L) (st : List av_V) (h : av_H) (q : Option av_V × av_H), av_run P sc n cd pc lv st h = some q → ∀ k, av_run P sc (n + k) cd pc lv st h = some q := by
  intro n
  induction n with
  | zero => intro sc cd pc lv st h q hs; simp [av_run] at hs
  | succ n ih =>
    intro sc cd pc lv st h q hs k
    rw [show n + 1 + k = (n + k) + 1 by omega]
    unfold av_run at hs ⊢
    split at hs
    · cases hs
    · next x hx =>
      split at hs
      · split at hs
        · cases hs
        · exact ih _ _ _ _ _ _ _ hs k
      · exact hs
      · split at hs
        · next M vs r hP hp =>
          split at hs
          · next hl =>
            split at hs
            · cases hs
            · next v h' hc =>
              rw [if_pos hl, ih _ _ _ _ _ _ _ hc k]
              exact ih _ _ _ _ _ _ _ hs k
          · cases hs
        · cases hs
/-- a cell that is something is one that was made -/
def av_Gd (h : av_H) : Prop := ∀ k, (h.2.2.1 k).1 ≠ 99 → k < h.1
theorem av_gd_lib {a pc pc' : Nat} {lv lv' : av_L} {st st' : List av_V} {h h' : av_H} (hg : av_Gd h) (hs : av_lib a pc lv st h = some (pc', lv', st', h')) : av_Gd h' := by
  unfold av_lib at hs
  split at hs
  all_goals (repeat' split at hs)
  all_goals first
    | (cases hs; done)
    | (cases hs; exact hg)
    | (cases hs
       intro k hk
       by_cases e : k = h.1
       · rw [e]; exact Nat.lt_succ_self _
       · simp only [av_newN, av_u1_ne e] at hk
         exact Nat.lt_succ_of_lt (hg k hk))
theorem av_gd_stp {sc : av_Sr} {x : av_E} {pc pc' : Nat} {lv lv' : av_L} {st st' : List av_V} {h h' : av_H} (hg : av_Gd h) (hs : av_stp sc x pc lv st h = some (pc', lv', st', h')) : av_Gd h' := by
  obtain ⟨ins, ln, xa, xb, xc, xk⟩ := x
  have eqv : h' = h → av_Gd h' := fun e => by rw [e]; exact hg
  cases ins <;> simp only [av_stp] at hs
  all_goals first
    | (cases hs; done)
    | exact eqv (av_m_bin hs)
    | exact eqv (av_m_ldi hs)
    | exact eqv (av_m_lda hs)
    | exact eqv (av_m_ldl hs)
    | exact eqv (av_m_sti hs)
    | exact eqv (av_m_sta hs)
    | exact eqv (av_m_iinc hs)
    | exact av_gd_lib hg hs
    | (cases hs; exact hg)
    | skip
  all_goals first
    | unfold av_getf at hs
    | unfold av_putf at hs
    | unfold av_ald at hs
    | unfold av_aald at hs
    | unfold av_iast at hs
    | unfold av_bast at hs
    | unfold av_aast at hs
    | unfold av_alen at hs
    | unfold av_newa at hs
    | unfold av_anew at hs
    | unfold av_mnew at hs
    | skip
  all_goals (repeat' split at hs)
  all_goals first
    | (cases hs; done)
    | (cases hs; exact hg)
    | (cases hs
       intro k hk
       by_cases e : k = h.1
       · rw [e]; exact Nat.lt_succ_self _
       · first
         | (simp only [av_newN, av_u1_ne e] at hk; exact Nat.lt_succ_of_lt (hg k hk))
         | (simp only [av_newR, av_u1_ne e] at hk; exact Nat.lt_succ_of_lt (hg k hk))
         | (simp only [av_newO, av_u1_ne e] at hk; exact Nat.lt_succ_of_lt (hg k hk)))
    | (cases hs
       intro k hk
       simp only [av_newM] at hk ⊢
       by_cases e : k = h.1
       · omega
       · rw [if_neg e] at hk
         split at hk
         · omega
         · have := hg k hk
           omega)
theorem av_gd_run (P : av_P) : ∀ (n : Nat) (sc : av_Sr) (cd : List (Nat × av_E)) (pc : Nat) (lv : av_L) (st : List av_V) (h : av_H) (v : Option av_V) (h' : av_H), av_Gd h → av_run P sc n cd pc lv st h = some (v, h') → av_Gd h' := by
  intro n
  induction n with
  | zero => intro sc cd pc lv st h v h' _ hs; simp [av_run] at hs
  | succ n ih =>
    intro sc cd pc lv st h v h' hg hs
    unfold av_run at hs
    split at hs
    · cases hs
    · next x hx =>
      split at hs
      · split at hs
        · cases hs
        · next pc1 lv1 st1 h1 hs1 => exact ih _ _ _ _ _ _ _ _ (av_gd_stp hg hs1) hs
      · unfold av_ret at hs
        split at hs
        · cases hs; exact hg
        · split at hs
          · cases hs; exact hg
          · cases hs
        · cases hs; exact hg
        · cases hs
      · split at hs
        · split at hs
          · split at hs
            · cases hs
            · next v1 h1 hs1 => exact ih _ _ _ _ _ _ _ _ (ih _ _ _ _ _ _ _ _ hg hs1) hs
          · cases hs
        · cases hs
/-- from here the method comes to its end, with Q -/
def av_wp (sc : av_Sr) (cd : List (Nat × av_E)) (pc : Nat) (lv : av_L) (st : List av_V) (h : av_H) (Q : Option av_V → av_H → Prop) : Prop :=
  av_Gd h → ∃ n v h', av_run av_PP sc n cd pc lv st h = some (v, h') ∧ Q v h'
/-- steps of its own, k of them -/
def av_seq (sc : av_Sr) : Nat → List (Nat × av_E) → av_S → Option av_S
  | 0, _, s => some s
  | n + 1, cd, s => match cd.lookup s.1 with
    | none => none
    | some x => if av_kd x = 0 then (match av_stp sc x s.1 s.2.1 s.2.2.1 s.2.2.2 with
      | none => none
      | some s' => av_seq sc n cd s') else none
theorem av_wp_seq (k : Nat) {sc : av_Sr} {cd : List (Nat × av_E)} {Q : Option av_V → av_H → Prop} : ∀ {pc pc' : Nat} {lv lv' : av_L} {st st' : List av_V} {h h' : av_H}, av_seq sc k cd (pc, lv, st, h) = some (pc', lv', st', h') → av_wp sc cd pc' lv' st' h' Q → av_wp sc cd pc lv st h Q := by
  induction k with
  | zero =>
    intro pc pc' lv lv' st st' h h' hs hw
    simp only [av_seq] at hs
    cases hs
    exact hw
  | succ k ih =>
    intro pc pc' lv lv' st st' h h' hs hw hg
    simp only [av_seq] at hs
    split at hs
    · cases hs
    · next x hx =>
      split at hs
      · next hk =>
        split at hs
        · cases hs
        · next s1 hs1 =>
          obtain ⟨pc1, lv1, st1, h1⟩ := s1
          obtain ⟨n, v, h2, hr, hq⟩ := ih hs hw (av_gd_stp hg hs1)
          refine ⟨n + 1, v, h2, ?_, hq⟩
          unfold av_run
          rw [hx]
          try dsimp only
          rw [hk]
          try dsimp only
          rw [hs1]
          exact hr
      · cases hs
theorem av_wp_ret {sc : av_Sr} {cd : List (Nat × av_E)} {pc : Nat} {lv : av_L} {st : List av_V} {h : av_H} {Q : Option av_V → av_H → Prop} {x : av_E} {v : Option av_V} (hx : cd.lookup pc = some x) (hk : av_kd x = 1) (hr : av_ret x st h = some (v, h)) (hq : Q v h) : av_wp sc cd pc lv st h Q := by
  intro hg
  refine ⟨1, v, h, ?_, hq⟩
  unfold av_run
  rw [hx]
  try dsimp only
  rw [hk]
  exact hr
theorem av_wp_call {sc : av_Sr} {cd : List (Nat × av_E)} {pc : Nat} {lv : av_L} {st : List av_V} {h : av_H} {Q Qc : Option av_V → av_H → Prop} {x : av_E} {vs r : List av_V} {M : Nat × List (Nat × av_E)} (hx : cd.lookup pc = some x) (hk : av_kd x = 2) (hM : av_PP x.2.2.1 = some M) (hp : av_Gd h → av_pop x st h = some (vs, r)) (hl : (av_args vs).length ≤ M.1)
    (hc : av_wp none M.2 0 (av_ent M.1 vs) [] h Qc) (hw : ∀ v h', Qc v h' → av_wp sc cd (pc + 3) lv (v.toList ++ r) h' Q) : av_wp sc cd pc lv st h Q := by
  intro hg
  obtain ⟨n1, v1, h1, hr1, hq1⟩ := hc hg
  obtain ⟨n2, v2, h2, hr2, hq2⟩ := hw v1 h1 hq1 (av_gd_run _ _ _ _ _ _ _ _ _ _ hg hr1)
  refine ⟨n1 + n2 + 1, v2, h2, ?_, hq2⟩
  unfold av_run
  rw [hx]
  try dsimp only
  rw [hk]
  try dsimp only
  rw [hM, hp hg]
  try dsimp only
  rw [if_pos hl, av_more _ _ _ _ _ _ _ _ _ hr1 n2]
  try dsimp only
  rw [Nat.add_comm n1 n2]
  exact av_more _ _ _ _ _ _ _ _ _ hr2 n1
theorem av_wp_mono {sc : av_Sr} {cd : List (Nat × av_E)} {pc : Nat} {lv : av_L} {st : List av_V} {h : av_H} {Q Q' : Option av_V → av_H → Prop} (hw : av_wp sc cd pc lv st h Q) (hq : ∀ v h', Q v h' → Q' v h') : av_wp sc cd pc lv st h Q' := by
  intro hg
  obtain ⟨n, v, h', hr, hQ⟩ := hw hg
  exact ⟨n, v, h', hr, hq v h' hQ⟩
