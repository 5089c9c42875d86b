section
/-! RUNS OF THE SMALL MACHINE, BY WHAT IS WANTED BEHIND THEM -/
theorem av_more (P : av_P) : ∀ (n : Nat) (sc : av_Sr) (cd : List (Nat × av_E)) (pc : Nat) (lv : av_L) (st : List av_V) (h : av_H) (q : Option av_V × av_H), av_run P sc n cd pc lv st h = some q → ∀ k, av_run P sc (n + k) cd pc lv st h = some q := by
  intro n
  induction n with
  | zero => intro sc cd pc lv st h q hs; simp [av_run] at hs
  | succ n ih =>
    intro sc cd pc lv st h q hs k
    rw [show n + 1 + k = (n + k) + 1 by omega]
    unfold av_run at hs ⊢
    split at hs
    · cases hs
    · next x hx =>
      split at hs
      · split at hs
        · cases hs
        · exact ih _ _ _ _ _ _ _ hs k
      · exact hs
      · split at hs
        · next M vs r hP hp =>
          split at hs
          · next hl =>
            split at hs
            · cases hs
            · next v h' hc =>
              rw [if_pos hl, ih _ _ _ _ _ _ _ hc k]
              exact ih _ _ _ _ _ _ _ hs k
          · cases hs
        · cases hs
/-- a cell that is something is one that was made -/
def av_Gd (h : av_H) : Prop := ∀ k, (h.2.2.1 k).1 ≠ 99 → k < h.1
theorem av_gd_lib {a pc pc' : Nat} {lv lv' : av_L} {st st' : List av_V} {h h' : av_H} (hg : av_Gd h) (hs : av_lib a pc lv st h = some (pc', lv', st', h')) : av_Gd h' := by
  unfold av_lib at hs
  split at hs
  all_goals (repeat' split at hs)
  all_goals first
    | (cases hs; done)
    | (cases hs; exact hg)
    | (cases hs
       intro k hk
       by_cases e : k = h.1
       · rw [e]; exact Nat.lt_succ_self _
       · simp only [av_newN, av_u1_ne e] at hk
         exact Nat.lt_succ_of_lt (hg k hk))
theorem av_gd_stp {sc : av_Sr} {x : av_E} {pc pc' : Nat} {lv lv' : av_L} {st st' : List av_V} {h h' : av_H} (hg : av_Gd h) (hs : av_stp sc x pc lv st h = some (pc', lv', st', h')) : av_Gd h' := by
  obtain ⟨ins, ln, xa, xb, xc, xk⟩ := x
  have eqv : h' = h → av_Gd h' := fun e => by rw [e]; exact hg
  cases ins <;> simp only [av_stp] at hs
  all_goals first
    | (cases hs; done)
    | exact eqv (av_m_bin hs)
    | exact eqv (av_m_ldi hs)
    | exact eqv (av_m_lda hs)
    | exact eqv (av_m_ldl hs)
    | exact eqv (av_m_sti hs)
    | exact eqv (av_m_sta hs)
    | exact eqv (av_m_iinc hs)
    | exact av_gd_lib hg hs
    | (cases hs; exact hg)
    | skip
  all_goals first
    | unfold av_getf at hs
    | unfold av_putf at hs
    | unfold av_ald at hs
    | unfold av_aald at hs
    | unfold av_iast at hs
    | unfold av_bast at hs
    | unfold av_aast at hs
    | unfold av_alen at hs
    | unfold av_newa at hs
    | unfold av_anew at hs
    | unfold av_mnew at hs
    | skip
  all_goals (repeat' split at hs)
  all_goals first
    | (cases hs; done)
    | (cases hs; exact hg)
    | (cases hs
       intro k hk
       by_cases e : k = h.1
       · rw [e]; exact Nat.lt_succ_self _
       · first
         | (simp only [av_newN, av_u1_ne e] at hk; exact Nat.lt_succ_of_lt (hg k hk))
         | (simp only [av_newR, av_u1_ne e] at hk; exact Nat.lt_succ_of_lt (hg k hk))
         | (simp only [av_newO, av_u1_ne e] at hk; exact Nat.lt_succ_of_lt (hg k hk)))
    | (cases hs
       intro k hk
       simp only [av_newM] at hk ⊢
       by_cases e : k = h.1
       · omega
       · rw [if_neg e] at hk
         split at hk
         · omega
         · have := hg k hk
           omega)
theorem av_gd_run (P : av_P) : ∀ (n : Nat) (sc : av_Sr) (cd : List (Nat × av_E)) (pc : Nat) (lv : av_L) (st : List av_V) (h : av_H) (v : Option av_V) (h' : av_H), av_Gd h → av_run P sc n cd pc lv st h = some (v, h') → av_Gd h' := by
  intro n
  induction n with
  | zero => intro sc cd pc lv st h v h' _ hs; simp [av_run] at hs
  | succ n ih =>
    intro sc cd pc lv st h v h' hg hs
    unfold av_run at hs
    split at hs
    · cases hs
    · next x hx =>
      split at hs
      · split at hs
        · cases hs
        · next pc1 lv1 st1 h1 hs1 => exact ih _ _ _ _ _ _ _ _ (av_gd_stp hg hs1) hs
      · unfold av_ret at hs
        split at hs
        · cases hs; exact hg
        · split at hs
          · cases hs; exact hg
          · cases hs
        · cases hs; exact hg
        · cases hs
      · split at hs
        · split at hs
          · split at hs
            · cases hs
            · next v1 h1 hs1 => exact ih _ _ _ _ _ _ _ _ (ih _ _ _ _ _ _ _ _ hg hs1) hs
          · cases hs
        · cases hs
/-- from here the method comes to its end, with Q -/
def av_wp (sc : av_Sr) (cd : List (Nat × av_E)) (pc : Nat) (lv : av_L) (st : List av_V) (h : av_H) (Q : Option av_V → av_H → Prop) : Prop :=
  av_Gd h → ∃ n v h', av_run av_PP sc n cd pc lv st h = some (v, h') ∧ Q v h'
/-- steps of its own, k of them -/
def av_seq (sc : av_Sr) : Nat → List (Nat × av_E) → av_S → Option av_S
  | 0, _, s => some s
  | n + 1, cd, s => match cd.lookup s.1 with
    | none => none
    | some x => if av_kd x = 0 then (match av_stp sc x s.1 s.2.1 s.2.2.1 s.2.2.2 with
      | none => none
      | some s' => av_seq sc n cd s') else none
theorem av_wp_seq (k : Nat) {sc : av_Sr} {cd : List (Nat × av_E)} {Q : Option av_V → av_H → Prop} : ∀ {pc pc' : Nat} {lv lv' : av_L} {st st' : List av_V} {h h' : av_H}, av_seq sc k cd (pc, lv, st, h) = some (pc', lv', st', h') → av_wp sc cd pc' lv' st' h' Q → av_wp sc cd pc lv st h Q := by
  induction k with
  | zero =>
    intro pc pc' lv lv' st st' h h' hs hw
    simp only [av_seq] at hs
    cases hs
    exact hw
  | succ k ih =>
    intro pc pc' lv lv' st st' h h' hs hw hg
    simp only [av_seq] at hs
    split at hs
    · cases hs
    · next x hx =>
      split at hs
      · next hk =>
        split at hs
        · cases hs
        · next s1 hs1 =>
          obtain ⟨pc1, lv1, st1, h1⟩ := s1
          obtain ⟨n, v, h2, hr, hq⟩ := ih hs hw (av_gd_stp hg hs1)
          refine ⟨n + 1, v, h2, ?_, hq⟩
          unfold av_run
          rw [hx]
          try dsimp only
          rw [hk]
          try dsimp only
          rw [hs1]
          exact hr
      · cases hs
theorem av_wp_ret {sc : av_Sr} {cd : List (Nat × av_E)} {pc : Nat} {lv : av_L} {st : List av_V} {h : av_H} {Q : Option av_V → av_H → Prop} {x : av_E} {v : Option av_V} (hx : cd.lookup pc = some x) (hk : av_kd x = 1) (hr : av_ret x st h = some (v, h)) (hq : Q v h) : av_wp sc cd pc lv st h Q := by
  intro hg
  refine ⟨1, v, h, ?_, hq⟩
  unfold av_run
  rw [hx]
  try dsimp only
  rw [hk]
  exact hr
theorem av_wp_call {sc : av_Sr} {cd : List (Nat × av_E)} {pc : Nat} {lv : av_L} {st : List av_V} {h : av_H} {Q Qc : Option av_V → av_H → Prop} {x : av_E} {vs r : List av_V} {M : Nat × List (Nat × av_E)} (hx : cd.lookup pc = some x) (hk : av_kd x = 2) (hM : av_PP x.2.2.1 = some M) (hp : av_Gd h → av_pop x st h = some (vs, r)) (hl : (av_args vs).length ≤ M.1)
    (hc : av_wp none M.2 0 (av_ent M.1 vs) [] h Qc) (hw : ∀ v h', Qc v h' → av_wp sc cd (pc + 3) lv (v.toList ++ r) h' Q) : av_wp sc cd pc lv st h Q := by
  intro hg
  obtain ⟨n1, v1, h1, hr1, hq1⟩ := hc hg
  obtain ⟨n2, v2, h2, hr2, hq2⟩ := hw v1 h1 hq1 (av_gd_run _ _ _ _ _ _ _ _ _ _ hg hr1)
  refine ⟨n1 + n2 + 1, v2, h2, ?_, hq2⟩
  unfold av_run
  rw [hx]
  try dsimp only
  rw [hk]
  try dsimp only
  rw [hM, hp hg]
  try dsimp only
  rw [if_pos hl, av_more _ _ _ _ _ _ _ _ _ hr1 n2]
  try dsimp only
  rw [Nat.add_comm n1 n2]
  exact av_more _ _ _ _ _ _ _ _ _ hr2 n1
theorem av_wp_mono {sc : av_Sr} {cd : List (Nat × av_E)} {pc : Nat} {lv : av_L} {st : List av_V} {h : av_H} {Q Q' : Option av_V → av_H → Prop} (hw : av_wp sc cd pc lv st h Q) (hq : ∀ v h', Q v h' → Q' v h') : av_wp sc cd pc lv st h Q' := by
  intro hg
  obtain ⟨n, v, h', hr, hQ⟩ := hw hg
  exact ⟨n, v, h', hr, hq v h' hQ⟩
end
section
/-! THE METHODS BY THEIR NUMBERS -/
theorem pp_1 : av_PP 1 = some (9, cd_1) := rfl
theorem pp_2 : av_PP 2 = some (2, cd_2) := rfl
theorem pp_3 : av_PP 3 = some (1, cd_3) := rfl
theorem pp_4 : av_PP 4 = some (6, cd_4) := rfl
theorem pp_5 : av_PP 5 = some (8, cd_5) := rfl
theorem pp_6 : av_PP 6 = some (3, cd_6) := rfl
theorem pp_7 : av_PP 7 = some (4, cd_7) := rfl
theorem pp_8 : av_PP 8 = some (5, cd_8) := rfl
theorem pp_9 : av_PP 9 = some (5, cd_9) := rfl
theorem pp_10 : av_PP 10 = some (3, cd_10) := rfl
theorem pp_11 : av_PP 11 = some (4, cd_11) := rfl
theorem pp_12 : av_PP 12 = some (6, cd_12) := rfl
theorem pp_13 : av_PP 13 = some (3, cd_13) := rfl
theorem pp_14 : av_PP 14 = some (4, cd_14) := rfl
theorem pp_15 : av_PP 15 = some (2, cd_15) := rfl
theorem pp_16 : av_PP 16 = some (3, cd_16) := rfl
theorem pp_17 : av_PP 17 = some (4, cd_17) := rfl
theorem pp_18 : av_PP 18 = some (3, cd_18) := rfl
theorem pp_19 : av_PP 19 = some (4, cd_19) := rfl
theorem pp_20 : av_PP 20 = some (4, cd_20) := rfl
theorem pp_21 : av_PP 21 = some (4, cd_21) := rfl
theorem pp_22 : av_PP 22 = some (5, cd_22) := rfl
theorem pp_23 : av_PP 23 = some (5, cd_23) := rfl
theorem pp_24 : av_PP 24 = some (5, cd_24) := rfl
theorem pp_25 : av_PP 25 = some (5, cd_25) := rfl
theorem pp_26 : av_PP 26 = some (2, cd_26) := rfl
theorem pp_27 : av_PP 27 = some (9, cd_27) := rfl
theorem pp_28 : av_PP 28 = some (2, cd_28) := rfl
theorem pp_29 : av_PP 29 = some (3, cd_29) := rfl
theorem pp_30 : av_PP 30 = some (3, cd_30) := rfl
theorem pp_31 : av_PP 31 = some (6, cd_31) := rfl
theorem pp_32 : av_PP 32 = some (3, cd_32) := rfl
theorem pp_33 : av_PP 33 = some (4, cd_33) := rfl
theorem pp_35 : av_PP 35 = some (6, cd_35) := rfl
theorem pp_36 : av_PP 36 = some (5, cd_36) := rfl
theorem pp_37 : av_PP 37 = some (2, cd_37) := rfl
theorem pp_38 : av_PP 38 = some (4, cd_38) := rfl
theorem pp_39 : av_PP 39 = some (6, cd_39) := rfl
theorem pp_40 : av_PP 40 = some (2, cd_40) := rfl
theorem pp_41 : av_PP 41 = some (3, cd_41) := rfl
theorem pp_42 : av_PP 42 = some (4, cd_42) := rfl
theorem pp_43 : av_PP 43 = some (3, cd_43) := rfl
theorem pp_44 : av_PP 44 = some (6, cd_44) := rfl
theorem pp_46 : av_PP 46 = some (1, cd_46) := rfl
theorem pp_47 : av_PP 47 = some (5, cd_47) := rfl
theorem pp_48 : av_PP 48 = some (5, cd_48) := rfl
theorem pp_49 : av_PP 49 = some (3, cd_49) := rfl
theorem pp_50 : av_PP 50 = some (5, cd_50) := rfl
theorem pp_51 : av_PP 51 = some (5, cd_51) := rfl
theorem pp_52 : av_PP 52 = some (8, cd_52) := rfl
theorem pp_53 : av_PP 53 = some (6, cd_53) := rfl
theorem pp_54 : av_PP 54 = some (5, cd_54) := rfl
theorem pp_55 : av_PP 55 = some (4, cd_55) := rfl
theorem pp_56 : av_PP 56 = some (2, cd_56) := rfl
theorem pp_57 : av_PP 57 = some (3, cd_57) := rfl
theorem pp_58 : av_PP 58 = some (7, cd_58) := rfl
theorem pp_59 : av_PP 59 = some (4, cd_59) := rfl
theorem pp_60 : av_PP 60 = some (3, cd_60) := rfl
theorem pp_61 : av_PP 61 = some (2, cd_61) := rfl
theorem pp_62 : av_PP 62 = some (3, cd_62) := rfl
theorem pp_63 : av_PP 63 = some (7, cd_63) := rfl
theorem pp_65 : av_PP 65 = some (4, cd_65) := rfl
theorem pp_66 : av_PP 66 = some (1, cd_66) := rfl
theorem pp_67 : av_PP 67 = some (4, cd_67) := rfl
theorem pp_68 : av_PP 68 = some (1, cd_68) := rfl
theorem pp_69 : av_PP 69 = some (2, cd_69) := rfl
theorem pp_70 : av_PP 70 = some (2, cd_70) := rfl
theorem pp_71 : av_PP 71 = some (2, cd_71) := rfl
theorem pp_72 : av_PP 72 = some (2, cd_72) := rfl
theorem pp_73 : av_PP 73 = some (2, cd_73) := rfl
theorem pp_74 : av_PP 74 = some (3, cd_74) := rfl
theorem pp_75 : av_PP 75 = some (5, cd_75) := rfl
theorem pp_76 : av_PP 76 = some (4, cd_76) := rfl
theorem pp_77 : av_PP 77 = some (3, cd_77) := rfl
theorem pp_79 : av_PP 79 = some (3, cd_79) := rfl
theorem pp_80 : av_PP 80 = some (2, cd_80) := rfl
theorem pp_81 : av_PP 81 = some (2, cd_81) := rfl
theorem pp_82 : av_PP 82 = some (2, cd_82) := rfl
theorem pp_83 : av_PP 83 = some (1, cd_83) := rfl
theorem pp_84 : av_PP 84 = some (1, cd_84) := rfl
theorem pp_85 : av_PP 85 = some (1, cd_85) := rfl
theorem pp_86 : av_PP 86 = some (7, cd_86) := rfl
theorem pp_87 : av_PP 87 = some (3, cd_87) := rfl
theorem pp_88 : av_PP 88 = some (2, cd_88) := rfl
theorem pp_89 : av_PP 89 = some (2, cd_89) := rfl
theorem pp_90 : av_PP 90 = some (1, cd_90) := rfl
theorem pp_91 : av_PP 91 = some (3, cd_91) := rfl
theorem pp_92 : av_PP 92 = some (4, cd_92) := rfl
theorem pp_93 : av_PP 93 = some (1, cd_93) := rfl
theorem pp_94 : av_PP 94 = some (6, cd_94) := rfl
theorem pp_95 : av_PP 95 = some (3, cd_95) := rfl
theorem pp_96 : av_PP 96 = some (5, cd_96) := rfl
theorem pp_97 : av_PP 97 = some (3, cd_97) := rfl
theorem pp_98 : av_PP 98 = some (3, cd_98) := rfl
theorem pp_99 : av_PP 99 = some (1, cd_99) := rfl
theorem pp_100 : av_PP 100 = some (1, cd_100) := rfl
theorem pp_101 : av_PP 101 = some (6, cd_101) := rfl
theorem pp_102 : av_PP 102 = some (1, cd_102) := rfl
theorem pp_103 : av_PP 103 = some (4, cd_103) := rfl
theorem pp_104 : av_PP 104 = some (6, cd_104) := rfl
theorem pp_105 : av_PP 105 = some (3, cd_105) := rfl
theorem pp_106 : av_PP 106 = some (7, cd_106) := rfl
theorem pp_107 : av_PP 107 = some (6, cd_107) := rfl
theorem pp_108 : av_PP 108 = some (4, cd_108) := rfl
theorem pp_109 : av_PP 109 = some (4, cd_109) := rfl
theorem pp_110 : av_PP 110 = some (3, cd_110) := rfl
theorem pp_111 : av_PP 111 = some (5, cd_111) := rfl
theorem pp_112 : av_PP 112 = some (8, cd_112) := rfl
theorem pp_113 : av_PP 113 = some (5, cd_113) := rfl
theorem pp_114 : av_PP 114 = some (8, cd_114) := rfl
theorem pp_115 : av_PP 115 = some (6, cd_115) := rfl
theorem pp_116 : av_PP 116 = some (5, cd_116) := rfl
theorem pp_117 : av_PP 117 = some (7, cd_117) := rfl
theorem pp_118 : av_PP 118 = some (6, cd_118) := rfl
theorem pp_119 : av_PP 119 = some (1, cd_119) := rfl
theorem pp_120 : av_PP 120 = some (5, cd_120) := rfl
theorem pp_121 : av_PP 121 = some (5, cd_121) := rfl
theorem pp_122 : av_PP 122 = some (4, cd_122) := rfl
theorem pp_123 : av_PP 123 = some (2, cd_123) := rfl
theorem pp_124 : av_PP 124 = some (2, cd_124) := rfl
theorem pp_125 : av_PP 125 = some (2, cd_125) := rfl
theorem pp_126 : av_PP 126 = some (1, cd_126) := rfl
theorem pp_127 : av_PP 127 = some (3, cd_127) := rfl
theorem pp_128 : av_PP 128 = some (8, cd_128) := rfl
theorem pp_129 : av_PP 129 = some (1, cd_129) := rfl
theorem pp_130 : av_PP 130 = some (2, cd_130) := rfl
theorem pp_131 : av_PP 131 = some (1, cd_131) := rfl
theorem pp_132 : av_PP 132 = some (3, cd_132) := rfl
theorem pp_133 : av_PP 133 = some (3, cd_133) := rfl
theorem pp_134 : av_PP 134 = some (4, cd_134) := rfl
theorem pp_135 : av_PP 135 = some (1, cd_135) := rfl
theorem pp_136 : av_PP 136 = some (2, cd_136) := rfl
theorem pp_137 : av_PP 137 = some (3, cd_137) := rfl
theorem pp_138 : av_PP 138 = some (1, cd_138) := rfl
theorem pp_139 : av_PP 139 = some (1, cd_139) := rfl
theorem pp_140 : av_PP 140 = some (1, cd_140) := rfl
theorem pp_141 : av_PP 141 = some (4, cd_141) := rfl
theorem pp_142 : av_PP 142 = some (5, cd_142) := rfl
theorem pp_143 : av_PP 143 = some (3, cd_143) := rfl
theorem pp_144 : av_PP 144 = some (2, cd_144) := rfl
theorem pp_145 : av_PP 145 = some (8, cd_145) := rfl
theorem pp_146 : av_PP 146 = some (6, cd_146) := rfl
theorem pp_147 : av_PP 147 = some (4, cd_147) := rfl
theorem pp_148 : av_PP 148 = some (3, cd_148) := rfl
theorem pp_149 : av_PP 149 = some (2, cd_149) := rfl
theorem pp_150 : av_PP 150 = some (2, cd_150) := rfl
theorem pp_151 : av_PP 151 = some (4, cd_151) := rfl
theorem pp_152 : av_PP 152 = some (2, cd_152) := rfl
theorem pp_153 : av_PP 153 = some (8, cd_153) := rfl
theorem pp_154 : av_PP 154 = some (5, cd_154) := rfl
theorem pp_155 : av_PP 155 = some (3, cd_155) := rfl
theorem pp_156 : av_PP 156 = some (2, cd_156) := rfl
theorem pp_157 : av_PP 157 = some (2, cd_157) := rfl
theorem pp_158 : av_PP 158 = some (1, cd_158) := rfl
theorem pp_159 : av_PP 159 = some (5, cd_159) := rfl
theorem pp_160 : av_PP 160 = some (3, cd_160) := rfl
theorem pp_161 : av_PP 161 = some (5, cd_161) := rfl
theorem pp_162 : av_PP 162 = some (5, cd_162) := rfl
theorem pp_163 : av_PP 163 = some (4, cd_163) := rfl
theorem pp_164 : av_PP 164 = some (1, cd_164) := rfl
theorem pp_165 : av_PP 165 = some (5, cd_165) := rfl
theorem pp_166 : av_PP 166 = some (3, cd_166) := rfl
theorem pp_167 : av_PP 167 = some (3, cd_167) := rfl
theorem pp_168 : av_PP 168 = some (2, cd_168) := rfl
theorem pp_169 : av_PP 169 = some (2, cd_169) := rfl
theorem pp_170 : av_PP 170 = some (2, cd_170) := rfl
theorem pp_171 : av_PP 171 = some (4, cd_171) := rfl
theorem pp_172 : av_PP 172 = some (3, cd_172) := rfl
theorem pp_173 : av_PP 173 = some (4, cd_173) := rfl
theorem pp_174 : av_PP 174 = some (3, cd_174) := rfl
theorem pp_175 : av_PP 175 = some (3, cd_175) := rfl
theorem pp_176 : av_PP 176 = some (2, cd_176) := rfl
theorem pp_177 : av_PP 177 = some (5, cd_177) := rfl
theorem pp_178 : av_PP 178 = some (4, cd_178) := rfl
theorem pp_179 : av_PP 179 = some (5, cd_179) := rfl
theorem pp_180 : av_PP 180 = some (4, cd_180) := rfl
theorem pp_181 : av_PP 181 = some (2, cd_181) := rfl
theorem pp_182 : av_PP 182 = some (4, cd_182) := rfl
theorem pp_183 : av_PP 183 = some (3, cd_183) := rfl
theorem pp_184 : av_PP 184 = some (2, cd_184) := rfl
theorem pp_185 : av_PP 185 = some (4, cd_185) := rfl
theorem pp_186 : av_PP 186 = some (4, cd_186) := rfl
theorem pp_187 : av_PP 187 = some (3, cd_187) := rfl
theorem pp_188 : av_PP 188 = some (3, cd_188) := rfl
theorem pp_189 : av_PP 189 = some (5, cd_189) := rfl
theorem pp_190 : av_PP 190 = some (5, cd_190) := rfl
theorem pp_191 : av_PP 191 = some (6, cd_191) := rfl
theorem pp_192 : av_PP 192 = some (4, cd_192) := rfl
theorem pp_193 : av_PP 193 = some (10, cd_193) := rfl
theorem pp_194 : av_PP 194 = some (3, cd_194) := rfl
theorem pp_195 : av_PP 195 = some (7, cd_195) := rfl
theorem pp_196 : av_PP 196 = some (5, cd_196) := rfl
theorem pp_197 : av_PP 197 = some (5, cd_197) := rfl
theorem pp_198 : av_PP 198 = some (8, cd_198) := rfl
theorem pp_199 : av_PP 199 = some (6, cd_199) := rfl
theorem pp_200 : av_PP 200 = some (7, cd_200) := rfl
theorem pp_201 : av_PP 201 = some (5, cd_201) := rfl
theorem pp_202 : av_PP 202 = some (5, cd_202) := rfl
theorem pp_203 : av_PP 203 = some (4, cd_203) := rfl
theorem pp_204 : av_PP 204 = some (4, cd_204) := rfl
theorem pp_205 : av_PP 205 = some (9, cd_205) := rfl
theorem pp_206 : av_PP 206 = some (5, cd_206) := rfl
theorem pp_207 : av_PP 207 = some (6, cd_207) := rfl
theorem pp_208 : av_PP 208 = some (7, cd_208) := rfl
theorem pp_209 : av_PP 209 = some (3, cd_209) := rfl
theorem pp_210 : av_PP 210 = some (4, cd_210) := rfl
theorem pp_211 : av_PP 211 = some (4, cd_211) := rfl
theorem pp_212 : av_PP 212 = some (5, cd_212) := rfl
theorem pp_213 : av_PP 213 = some (4, cd_213) := rfl
theorem pp_214 : av_PP 214 = some (1, cd_214) := rfl
theorem pp_215 : av_PP 215 = some (2, cd_215) := rfl
theorem pp_216 : av_PP 216 = some (3, cd_216) := rfl
theorem pp_217 : av_PP 217 = some (2, cd_217) := rfl
theorem pp_218 : av_PP 218 = some (1, cd_218) := rfl
theorem pp_219 : av_PP 219 = some (3, cd_219) := rfl
theorem pp_220 : av_PP 220 = some (4, cd_220) := rfl
theorem pp_221 : av_PP 221 = some (5, cd_221) := rfl
theorem pp_222 : av_PP 222 = some (3, cd_222) := rfl
end
