/-! THE REFERENCE'S READER OF LAWS, by the class's functions -/
set_option maxRecDepth 100000 in
set_option maxHeartbeats 4000000 in
theorem ct_152 {g h : av_H} {b : Nat → Int} {lim : Nat} {t : TT} {x17 : Int} {A : Nat → Nat → Int} (N : MT b lim t x17 A h) (F : FD g h)  {Q : Option av_V → av_H → Prop} (hq : ∀ h', MT b lim (cho b lim t 14) x17 A h' → FD g h' → Q (some (.inl (pkv b t 14))) h') : av_wp none cd_152 0 [some (.inr (.inr (.inl (some (77))))), none] [] h Q := by
  have gw1 : t.1 ≤ 900 ∧ t.2.1 ≤ lim ∧ lim ≤ 900 := ⟨N.2.1.1, N.2.1.2.1, N.2.1.2.2.1⟩
  have gw2 : -1 ≤ t.2.2.2 ∧ t.2.2.2 ≤ 900 := N.2.1.2.2.2.2
  have gt := tok_f t N.2.1.2.2.2.1
  have gtr := gt.2.2.2.2
  clear gt
  refine av_wp_seq 2 (pc' := 4) (lv' := [some (.inr (.inr (.inl (some (77))))), none]) (st' := [.inr (.inl (378020)), .inr (.inr (.inl (some (77))))]) (h' := h) rfl ?_
  refine wq_cv (p' := 7) (av_qc (.invokevirtual 187) 132 1 0 8) 3 cd_132 [.inr (.inl (378020))] (77) 8 [some (.inr (.inr (.inl (some (77))))), some (.inr (.inl (378020))), none] rfl rfl rfl pp_132 rfl rfl rfl (congrArg Prod.fst (ly_k N.1.1 77 rfl)) rfl rfl rfl rfl ?_
  refine ct_132 N F (378020) (by omega) (fun z1 => ?_) (fun z1 => ?_)
  · show av_wp _ cd_152 7 [some (.inr (.inr (.inl (some (77))))), none] [.inl (1)] h _
    refine av_wp_seq 7 (pc' := 56) (lv' := [some (.inr (.inr (.inl (some (77))))), some (.inl (0))]) (st' := [.inr (.inr (.inl (some (77))))]) (h' := h) rfl ?_
    refine wq_cv (p' := 59) (av_qc (.invokevirtual 191) 130 0 0 8) 2 cd_130 [] (77) 8 [some (.inr (.inr (.inl (some (77))))), none] rfl rfl rfl pp_130 rfl rfl rfl (congrArg Prod.fst (ly_k N.1.1 77 rfl)) rfl rfl rfl rfl ?_
    refine ct_130t N F (fun h2 N3 F4 => ?_)
    show av_wp _ cd_152 59 [some (.inr (.inr (.inl (some (77))))), some (.inl (0))] [] h2 _
    refine av_wp_seq 1 (pc' := 60) (lv' := [some (.inr (.inr (.inl (some (77))))), some (.inl (0))]) (st' := [.inl (0)]) (h' := h2) rfl ?_
    refine av_wp_ret (v := some (.inl (0))) rfl rfl rfl ?_
    have z0 : pkv b t 14 = 0 := by rw [pkP_14 N.2.2, if_pos z1]
    have z1 : cho b lim t 14 = (adv b lim t) := if_neg (by omega)
    rw [z0, z1] at hq
    exact hq h2 N3 F4
  · show av_wp _ cd_152 7 [some (.inr (.inr (.inl (some (77))))), none] [.inl (0)] h _
    refine av_wp_seq 3 (pc' := 18) (lv' := [some (.inr (.inr (.inl (some (77))))), none]) (st' := [.inr (.inl (70340)), .inr (.inr (.inl (some (77))))]) (h' := h) rfl ?_
    refine wq_cv (p' := 21) (av_qc (.invokevirtual 187) 132 1 0 8) 3 cd_132 [.inr (.inl (70340))] (77) 8 [some (.inr (.inr (.inl (some (77))))), some (.inr (.inl (70340))), none] rfl rfl rfl pp_132 rfl rfl rfl (congrArg Prod.fst (ly_k N.1.1 77 rfl)) rfl rfl rfl rfl ?_
    refine ct_132 N F (70340) (by omega) (fun z5 => ?_) (fun z5 => ?_)
    · show av_wp _ cd_152 21 [some (.inr (.inr (.inl (some (77))))), none] [.inl (1)] h _
      refine av_wp_seq 7 (pc' := 56) (lv' := [some (.inr (.inr (.inl (some (77))))), some (.inl (1))]) (st' := [.inr (.inr (.inl (some (77))))]) (h' := h) rfl ?_
      refine wq_cv (p' := 59) (av_qc (.invokevirtual 191) 130 0 0 8) 2 cd_130 [] (77) 8 [some (.inr (.inr (.inl (some (77))))), none] rfl rfl rfl pp_130 rfl rfl rfl (congrArg Prod.fst (ly_k N.1.1 77 rfl)) rfl rfl rfl rfl ?_
      refine ct_130t N F (fun h6 N7 F8 => ?_)
      show av_wp _ cd_152 59 [some (.inr (.inr (.inl (some (77))))), some (.inl (1))] [] h6 _
      refine av_wp_seq 1 (pc' := 60) (lv' := [some (.inr (.inr (.inl (some (77))))), some (.inl (1))]) (st' := [.inl (1)]) (h' := h6) rfl ?_
      refine av_wp_ret (v := some (.inl (1))) rfl rfl rfl ?_
      have z0 : pkv b t 14 = 1 := by rw [pkP_14 N.2.2, if_neg z1, if_pos z5]
      have z1 : cho b lim t 14 = (adv b lim t) := if_neg (by omega)
      rw [z0, z1] at hq
      exact hq h6 N7 F8
    · show av_wp _ cd_152 21 [some (.inr (.inr (.inl (some (77))))), none] [.inl (0)] h _
      refine av_wp_seq 3 (pc' := 32) (lv' := [some (.inr (.inr (.inl (some (77))))), none]) (st' := [.inr (.inl (357970)), .inr (.inr (.inl (some (77))))]) (h' := h) rfl ?_
      refine wq_cv (p' := 35) (av_qc (.invokevirtual 187) 132 1 0 8) 3 cd_132 [.inr (.inl (357970))] (77) 8 [some (.inr (.inr (.inl (some (77))))), some (.inr (.inl (357970))), none] rfl rfl rfl pp_132 rfl rfl rfl (congrArg Prod.fst (ly_k N.1.1 77 rfl)) rfl rfl rfl rfl ?_
      refine ct_132 N F (357970) (by omega) (fun z9 => ?_) (fun z9 => ?_)
      · show av_wp _ cd_152 35 [some (.inr (.inr (.inl (some (77))))), none] [.inl (1)] h _
        refine av_wp_seq 7 (pc' := 56) (lv' := [some (.inr (.inr (.inl (some (77))))), some (.inl (2))]) (st' := [.inr (.inr (.inl (some (77))))]) (h' := h) rfl ?_
        refine wq_cv (p' := 59) (av_qc (.invokevirtual 191) 130 0 0 8) 2 cd_130 [] (77) 8 [some (.inr (.inr (.inl (some (77))))), none] rfl rfl rfl pp_130 rfl rfl rfl (congrArg Prod.fst (ly_k N.1.1 77 rfl)) rfl rfl rfl rfl ?_
        refine ct_130t N F (fun h10 N11 F12 => ?_)
        show av_wp _ cd_152 59 [some (.inr (.inr (.inl (some (77))))), some (.inl (2))] [] h10 _
        refine av_wp_seq 1 (pc' := 60) (lv' := [some (.inr (.inr (.inl (some (77))))), some (.inl (2))]) (st' := [.inl (2)]) (h' := h10) rfl ?_
        refine av_wp_ret (v := some (.inl (2))) rfl rfl rfl ?_
        have z0 : pkv b t 14 = 2 := by rw [pkP_14 N.2.2, if_neg z1, if_neg z5, if_pos z9]
        have z1 : cho b lim t 14 = (adv b lim t) := if_neg (by omega)
        rw [z0, z1] at hq
        exact hq h10 N11 F12
      · show av_wp _ cd_152 35 [some (.inr (.inr (.inl (some (77))))), none] [.inl (0)] h _
        refine av_wp_seq 6 (pc' := 49) (lv' := [some (.inr (.inr (.inl (some (77))))), some (.inl (-1))]) (st' := [.inr (.inr (.inl (some (77))))]) (h' := h) rfl ?_
        refine wq_cv (p' := 52) (av_qc (.invokevirtual 194) 131 0 0 8) 1 cd_131 [] (77) 8 [some (.inr (.inr (.inl (some (77)))))] rfl rfl rfl pp_131 rfl rfl rfl (congrArg Prod.fst (ly_k N.1.1 77 rfl)) rfl rfl rfl rfl ?_
        refine ct_131 N F (fun h13 N14 F15 => ?_)
        show av_wp _ cd_152 52 [some (.inr (.inr (.inl (some (77))))), some (.inl (-1))] [] h13 _
        refine av_wp_seq 2 (pc' := 60) (lv' := [some (.inr (.inr (.inl (some (77))))), some (.inl (-1))]) (st' := [.inl (-1)]) (h' := h13) rfl ?_
        refine av_wp_ret (v := some (.inl (-1))) rfl rfl rfl ?_
        have z0 : pkv b t 14 = -1 := by rw [pkP_14 N.2.2, if_neg z1, if_neg z5, if_neg z9]
        have z1 : cho b lim t 14 = (fal t) := if_pos (by omega)
        rw [z0, z1] at hq
        exact hq h13 N14 F15

set_option maxRecDepth 100000 in
set_option maxHeartbeats 4000000 in
theorem ct_153 {g h : av_H} {b : Nat → Int} {lim : Nat} {t : TT} {x17 : Int} {A : Nat → Nat → Int} (N : MT b lim t x17 A h) (F : FD g h) (w0 : Int) (q0 : -9 ≤ w0 ∧ w0 ≤ 9000000000000000000) (w1 : Int) (q1 : -9 ≤ w1 ∧ w1 ≤ 9000000000000000000) (w2 : Int) (q2 : -9 ≤ w2 ∧ w2 ≤ 9000000000000000000) {Q : Option av_V → av_H → Prop} (hq : ∀ h', MT b lim (if on3 b t w0 w1 w2 = -1 then fal t else adv b lim t) x17 A h' → FD g h' → Q (some (.inl (on3 b t w0 w1 w2))) h') : av_wp none cd_153 0 [some (.inr (.inr (.inl (some (77))))), some (.inr (.inl w0)), none, some (.inr (.inl w1)), none, some (.inr (.inl w2)), none, none] [] h Q := by
  have gw1 : t.1 ≤ 900 ∧ t.2.1 ≤ lim ∧ lim ≤ 900 := ⟨N.2.1.1, N.2.1.2.1, N.2.1.2.2.1⟩
  have gw2 : -1 ≤ t.2.2.2 ∧ t.2.2.2 ≤ 900 := N.2.1.2.2.2.2
  have gt := tok_f t N.2.1.2.2.2.1
  have gtr := gt.2.2.2.2
  clear gt
  refine av_wp_seq 2 (pc' := 2) (lv' := [some (.inr (.inr (.inl (some (77))))), some (.inr (.inl w0)), none, some (.inr (.inl w1)), none, some (.inr (.inl w2)), none, none]) (st' := [.inr (.inl w0), .inr (.inr (.inl (some (77))))]) (h' := h) rfl ?_
  refine wq_cv (p' := 5) (av_qc (.invokevirtual 187) 132 1 0 8) 3 cd_132 [.inr (.inl w0)] (77) 8 [some (.inr (.inr (.inl (some (77))))), some (.inr (.inl w0)), none] rfl rfl rfl pp_132 rfl rfl rfl (congrArg Prod.fst (ly_k N.1.1 77 rfl)) rfl rfl rfl rfl ?_
  refine ct_132 N F w0 (by omega) (fun z1 => ?_) (fun z1 => ?_)
  · show av_wp _ cd_153 5 [some (.inr (.inr (.inl (some (77))))), some (.inr (.inl w0)), none, some (.inr (.inl w1)), none, some (.inr (.inl w2)), none, none] [.inl (1)] h _
    refine av_wp_seq 7 (pc' := 53) (lv' := [some (.inr (.inr (.inl (some (77))))), some (.inr (.inl w0)), none, some (.inr (.inl w1)), none, some (.inr (.inl w2)), none, some (.inl (0))]) (st' := [.inr (.inr (.inl (some (77))))]) (h' := h) rfl ?_
    refine wq_cv (p' := 56) (av_qc (.invokevirtual 191) 130 0 0 8) 2 cd_130 [] (77) 8 [some (.inr (.inr (.inl (some (77))))), none] rfl rfl rfl pp_130 rfl rfl rfl (congrArg Prod.fst (ly_k N.1.1 77 rfl)) rfl rfl rfl rfl ?_
    refine ct_130t N F (fun h2 N3 F4 => ?_)
    show av_wp _ cd_153 56 [some (.inr (.inr (.inl (some (77))))), some (.inr (.inl w0)), none, some (.inr (.inl w1)), none, some (.inr (.inl w2)), none, some (.inl (0))] [] h2 _
    refine av_wp_seq 1 (pc' := 58) (lv' := [some (.inr (.inr (.inl (some (77))))), some (.inr (.inl w0)), none, some (.inr (.inl w1)), none, some (.inr (.inl w2)), none, some (.inl (0))]) (st' := [.inl (0)]) (h' := h2) rfl ?_
    refine av_wp_ret (v := some (.inl (0))) rfl rfl rfl ?_
    have z0 : on3 b t w0 w1 w2 = 0 := by unfold on3; rw [if_pos z1]
    rw [z0] at hq
    exact hq h2 (by rw [if_neg (by omega)]; exact N3) F4
  · show av_wp _ cd_153 5 [some (.inr (.inr (.inl (some (77))))), some (.inr (.inl w0)), none, some (.inr (.inl w1)), none, some (.inr (.inl w2)), none, none] [.inl (0)] h _
    refine av_wp_seq 3 (pc' := 14) (lv' := [some (.inr (.inr (.inl (some (77))))), some (.inr (.inl w0)), none, some (.inr (.inl w1)), none, some (.inr (.inl w2)), none, none]) (st' := [.inr (.inl w1), .inr (.inr (.inl (some (77))))]) (h' := h) rfl ?_
    refine wq_cv (p' := 17) (av_qc (.invokevirtual 187) 132 1 0 8) 3 cd_132 [.inr (.inl w1)] (77) 8 [some (.inr (.inr (.inl (some (77))))), some (.inr (.inl w1)), none] rfl rfl rfl pp_132 rfl rfl rfl (congrArg Prod.fst (ly_k N.1.1 77 rfl)) rfl rfl rfl rfl ?_
    refine ct_132 N F w1 (by omega) (fun z5 => ?_) (fun z5 => ?_)
    · show av_wp _ cd_153 17 [some (.inr (.inr (.inl (some (77))))), some (.inr (.inl w0)), none, some (.inr (.inl w1)), none, some (.inr (.inl w2)), none, none] [.inl (1)] h _
      refine av_wp_seq 7 (pc' := 53) (lv' := [some (.inr (.inr (.inl (some (77))))), some (.inr (.inl w0)), none, some (.inr (.inl w1)), none, some (.inr (.inl w2)), none, some (.inl (1))]) (st' := [.inr (.inr (.inl (some (77))))]) (h' := h) rfl ?_
      refine wq_cv (p' := 56) (av_qc (.invokevirtual 191) 130 0 0 8) 2 cd_130 [] (77) 8 [some (.inr (.inr (.inl (some (77))))), none] rfl rfl rfl pp_130 rfl rfl rfl (congrArg Prod.fst (ly_k N.1.1 77 rfl)) rfl rfl rfl rfl ?_
      refine ct_130t N F (fun h6 N7 F8 => ?_)
      show av_wp _ cd_153 56 [some (.inr (.inr (.inl (some (77))))), some (.inr (.inl w0)), none, some (.inr (.inl w1)), none, some (.inr (.inl w2)), none, some (.inl (1))] [] h6 _
      refine av_wp_seq 1 (pc' := 58) (lv' := [some (.inr (.inr (.inl (some (77))))), some (.inr (.inl w0)), none, some (.inr (.inl w1)), none, some (.inr (.inl w2)), none, some (.inl (1))]) (st' := [.inl (1)]) (h' := h6) rfl ?_
      refine av_wp_ret (v := some (.inl (1))) rfl rfl rfl ?_
      have z0 : on3 b t w0 w1 w2 = 1 := by unfold on3; rw [if_neg z1, if_pos z5]
      rw [z0] at hq
      exact hq h6 (by rw [if_neg (by omega)]; exact N7) F8
    · show av_wp _ cd_153 17 [some (.inr (.inr (.inl (some (77))))), some (.inr (.inl w0)), none, some (.inr (.inl w1)), none, some (.inr (.inl w2)), none, none] [.inl (0)] h _
      refine av_wp_seq 3 (pc' := 27) (lv' := [some (.inr (.inr (.inl (some (77))))), some (.inr (.inl w0)), none, some (.inr (.inl w1)), none, some (.inr (.inl w2)), none, none]) (st' := [.inr (.inl w2), .inr (.inr (.inl (some (77))))]) (h' := h) rfl ?_
      refine wq_cv (p' := 30) (av_qc (.invokevirtual 187) 132 1 0 8) 3 cd_132 [.inr (.inl w2)] (77) 8 [some (.inr (.inr (.inl (some (77))))), some (.inr (.inl w2)), none] rfl rfl rfl pp_132 rfl rfl rfl (congrArg Prod.fst (ly_k N.1.1 77 rfl)) rfl rfl rfl rfl ?_
      refine ct_132 N F w2 (by omega) (fun z9 => ?_) (fun z9 => ?_)
      · show av_wp _ cd_153 30 [some (.inr (.inr (.inl (some (77))))), some (.inr (.inl w0)), none, some (.inr (.inl w1)), none, some (.inr (.inl w2)), none, none] [.inl (1)] h _
        refine av_wp_seq 7 (pc' := 53) (lv' := [some (.inr (.inr (.inl (some (77))))), some (.inr (.inl w0)), none, some (.inr (.inl w1)), none, some (.inr (.inl w2)), none, some (.inl (2))]) (st' := [.inr (.inr (.inl (some (77))))]) (h' := h) rfl ?_
        refine wq_cv (p' := 56) (av_qc (.invokevirtual 191) 130 0 0 8) 2 cd_130 [] (77) 8 [some (.inr (.inr (.inl (some (77))))), none] rfl rfl rfl pp_130 rfl rfl rfl (congrArg Prod.fst (ly_k N.1.1 77 rfl)) rfl rfl rfl rfl ?_
        refine ct_130t N F (fun h10 N11 F12 => ?_)
        show av_wp _ cd_153 56 [some (.inr (.inr (.inl (some (77))))), some (.inr (.inl w0)), none, some (.inr (.inl w1)), none, some (.inr (.inl w2)), none, some (.inl (2))] [] h10 _
        refine av_wp_seq 1 (pc' := 58) (lv' := [some (.inr (.inr (.inl (some (77))))), some (.inr (.inl w0)), none, some (.inr (.inl w1)), none, some (.inr (.inl w2)), none, some (.inl (2))]) (st' := [.inl (2)]) (h' := h10) rfl ?_
        refine av_wp_ret (v := some (.inl (2))) rfl rfl rfl ?_
        have z0 : on3 b t w0 w1 w2 = 2 := by unfold on3; rw [if_neg z1, if_neg z5, if_pos z9]
        rw [z0] at hq
        exact hq h10 (by rw [if_neg (by omega)]; exact N11) F12
      · show av_wp _ cd_153 30 [some (.inr (.inr (.inl (some (77))))), some (.inr (.inl w0)), none, some (.inr (.inl w1)), none, some (.inr (.inl w2)), none, none] [.inl (0)] h _
        refine av_wp_seq 6 (pc' := 46) (lv' := [some (.inr (.inr (.inl (some (77))))), some (.inr (.inl w0)), none, some (.inr (.inl w1)), none, some (.inr (.inl w2)), none, some (.inl (-1))]) (st' := [.inr (.inr (.inl (some (77))))]) (h' := h) rfl ?_
        refine wq_cv (p' := 49) (av_qc (.invokevirtual 194) 131 0 0 8) 1 cd_131 [] (77) 8 [some (.inr (.inr (.inl (some (77)))))] rfl rfl rfl pp_131 rfl rfl rfl (congrArg Prod.fst (ly_k N.1.1 77 rfl)) rfl rfl rfl rfl ?_
        refine ct_131 N F (fun h13 N14 F15 => ?_)
        show av_wp _ cd_153 49 [some (.inr (.inr (.inl (some (77))))), some (.inr (.inl w0)), none, some (.inr (.inl w1)), none, some (.inr (.inl w2)), none, some (.inl (-1))] [] h13 _
        refine av_wp_seq 2 (pc' := 58) (lv' := [some (.inr (.inr (.inl (some (77))))), some (.inr (.inl w0)), none, some (.inr (.inl w1)), none, some (.inr (.inl w2)), none, some (.inl (-1))]) (st' := [.inl (-1)]) (h' := h13) rfl ?_
        refine av_wp_ret (v := some (.inl (-1))) rfl rfl rfl ?_
        have z0 : on3 b t w0 w1 w2 = -1 := by unfold on3; rw [if_neg z1, if_neg z5, if_neg z9]
        rw [z0] at hq
        exact hq h13 (by rw [if_pos (by omega)]; exact N14) F15

theorem ct_153n {g h : av_H} {b : Nat → Int} {lim : Nat} {t : TT} {x17 : Int} {A : Nat → Nat → Int} (N : MT b lim t x17 A h) (F : FD g h) (w0 : Int) (q0 : -9 ≤ w0 ∧ w0 ≤ 9000000000000000000) (w1 : Int) (q1 : -9 ≤ w1 ∧ w1 ≤ 9000000000000000000) (w2 : Int) (q2 : -9 ≤ w2 ∧ w2 ≤ 9000000000000000000) (n : Nat) (e : on3 b t w0 w1 w2 = pkv b t n) {Q : Option av_V → av_H → Prop} (hq : ∀ h', MT b lim (cho b lim t n) x17 A h' → FD g h' → Q (some (.inl (pkv b t n))) h') : av_wp none cd_153 0 [some (.inr (.inr (.inl (some (77))))), some (.inr (.inl w0)), none, some (.inr (.inl w1)), none, some (.inr (.inl w2)), none, none] [] h Q :=
  ct_153 N F w0 q0 w1 q1 w2 q2 (fun h' N' F' => by
    have hq' := hq h' (by unfold cho; rw [← e]; exact N') F'
    rw [← e] at hq'
    exact hq')

