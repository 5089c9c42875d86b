/-! THE CLASS READS BEHIND A CASE, exactly -/
/-- the old case's cells ahead of the rest -/
def cpr (h : av_H) (c s : Nat) (r : Nat → Int) : Nat → Int := fun j => if j < 21 * s then hA h c j else r j
set_option maxRecDepth 100000 in
set_option maxHeartbeats 4000000 in
theorem ct_35 {h : av_H} {b r d : Nat → Int} {lim : Nat} {t : TT} (C : CT b lim t r d h) {t0 c0 s0 : Nat} {cb0 : Int} (o : CO h t0 c0 s0 cb0) (hw : ∀ j, j < 21 * s0 → j % 21 ≠ 20 → hA h c0 j ≤ 2000) (hsd : SD s0 (hA h c0)) (hz : ∀ j, 252 ≤ j → r j = 0) (ah : Int) (qa : 0 ≤ ah ∧ ah ≤ 16) {Q : Option av_V → av_H → Prop} (hq0 : (rbA b lim ah s0 t (cpr h c0 s0 r)).2.1.2.2.2 ≠ -1 → ∀ h', CT b lim (rbA b lim ah s0 t (cpr h c0 s0 r)).2.1 (rbA b lim ah s0 t (cpr h c0 s0 r)).2.2 d h' → FB h h' 0 0 → (∀ q k, q ≠ 1 → q ≠ 22 → hF h' q k = hF h q k) → hF h' 1 1 = hF h 1 1 → hR h' = hR h → (∀ a, a ≠ 23 → hA h' a = hA h a) → (∀ j, 252 ≤ j → (rbA b lim ah s0 t (cpr h c0 s0 r)).2.2 j = 0) → Q (some (.inr (.inr (.inl none)))) h') (hq1 : (rbA b lim ah s0 t (cpr h c0 s0 r)).2.1.2.2.2 = -1 → ∀ h' h4 f, CT b lim (rbA b lim ah s0 t (cpr h c0 s0 r)).2.1 (rbA b lim ah s0 t (cpr h c0 s0 r)).2.2 d h4 → AL h4 h' 2 (4 + 21 * (rbA b lim ah s0 t (cpr h c0 s0 r)).1) → CT b lim (rbA b lim ah s0 t (cpr h c0 s0 r)).2.1 (rbA b lim ah s0 t (cpr h c0 s0 r)).2.2 d h' → FB h h4 0 0 → (∀ q k, q ≠ 1 → q ≠ 22 → hF h4 q k = hF h q k) → hF h4 1 1 = hF h 1 1 → hR h4 = hR h → (∀ a, a ≠ 23 → hA h4 a = hA h a) → (∀ j, 252 ≤ j → (rbA b lim ah s0 t (cpr h c0 s0 r)).2.2 j = 0) → CX h' h4.1 (h4.1 + 1) (rbA b lim ah s0 t (cpr h c0 s0 r)).1 f → FV (rbA b lim ah s0 t (cpr h c0 s0 r)).1 f → SD (rbA b lim ah s0 t (cpr h c0 s0 r)).1 f → 1 ≤ (rbA b lim ah s0 t (cpr h c0 s0 r)).1 → (∀ j, j < 21 * (rbA b lim ah s0 t (cpr h c0 s0 r)).1 → f j = (rbA b lim ah s0 t (cpr h c0 s0 r)).2.2 j) → 122 ≤ h4.1 → Q (some (.inr (.inr (.inl (some h4.1))))) h') : av_wp none cd_35 0 [some (.inr (.inr (.inl (some (22))))), some (.inr (.inr (.inl (some t0)))), some (.inl ah), none, none, none] [] h Q := by
  have s12 := co_s12 o
  have kt := co_kt o
  have t22 : t0 ≠ 22 := fun z => by have a := kt; rw [z, C.1.1 22 rfl] at a; cases a
  refine av_wp_seq 2 (pc' := 2) (lv' := [some (.inr (.inr (.inl (some (22))))), some (.inr (.inr (.inl (some t0)))), some (.inl ah), none, none, none]) (st' := [.inl ah, .inr (.inr (.inl (some (22))))]) (h' := h) rfl ?_
  refine wq_pi (p' := 5) rfl rfl (congrArg Prod.fst (ly_k C.1 22 rfl)) rfl ?_
  refine av_wp_seq 1 (pc' := 6) (lv' := [some (.inr (.inr (.inl (some (22))))), some (.inr (.inr (.inl (some t0)))), some (.inl ah), none, none, none]) (st' := [.inr (.inr (.inl (some t0)))]) (h' := hwF h 22 2 ah) rfl ?_
  refine wq_gi (p' := 9) (v := (s0 : Int)) rfl rfl (congrArg Prod.fst (show hK (hwF h 22 2 ah) t0 = (1, 0) from kt)) rfl ((show av_u2 h.2.2.2.2.1 22 2 ah t0 1 = _ by rw [av_u2_ne t22]).trans (co_s o)) ?_
  refine av_wp_seq 1 (pc' := 11) (lv' := [some (.inr (.inr (.inl (some (22))))), some (.inr (.inr (.inl (some t0)))), some (.inl ah), none, none, none]) (st' := [.inl (12), .inl (s0 : Int)]) (h' := hwF h 22 2 ah) rfl ?_
  refine wq_mne (p' := 14) rfl rfl rfl (fun _ _ => rfl) rfl ⟨by omega, by omega⟩ ⟨by omega, by omega⟩ ?_
  rw [if_neg (show ¬ (12 : Int) < (s0 : Int) by omega)]
  refine av_wp_seq 4 (pc' := 19) (lv' := [some (.inr (.inr (.inl (some (22))))), some (.inr (.inr (.inl (some t0)))), some (.inl ah), some (.inl (s0 : Int)), some (.inl (s0 : Int)), none]) (st' := [.inr (.inr (.inl (some t0)))]) (h' := hwF h 22 2 ah) rfl ?_
  refine wq_gr (p' := 22) (v := some c0) rfl rfl (congrArg Prod.fst (show hK (hwF h 22 2 ah) t0 = (1, 0) from kt)) rfl (show hG h t0 0 = some c0 from co_c o) ?_
  refine av_wp_seq 2 (pc' := 24) (lv' := [some (.inr (.inr (.inl (some (22))))), some (.inr (.inr (.inl (some t0)))), some (.inl ah), some (.inl (s0 : Int)), some (.inl (s0 : Int)), none]) (st' := [.inr (.inr (.inl (some (22)))), .inl (0), .inr (.inr (.inl (some c0)))]) (h' := hwF h 22 2 ah) rfl ?_
  refine wq_gr (p' := 27) (v := some 23) rfl rfl (congrArg Prod.fst (ly_k C.1 22 rfl)) rfl (ly_g C.1 22 1 23 rfl) ?_
  refine av_wp_seq 4 (pc' := 32) (lv' := [some (.inr (.inr (.inl (some (22))))), some (.inr (.inr (.inl (some t0)))), some (.inl ah), some (.inl (s0 : Int)), some (.inl (s0 : Int)), none]) (st' := [.inl ((s0 : Int) * (21)), .inl (0), .inr (.inr (.inl (some 23))), .inl (0), .inr (.inr (.inl (some c0)))]) (h' := hwF h 22 2 ah) rfl ?_
  refine wq_ac (p' := 35) (nd := 252) (nq := 21 * s0) rfl rfl rfl (fun _ _ => rfl) rfl (ly_k C.1 23 rfl) (show hK h c0 = (20, 21 * s0) from co_kc o) (by omega) (by omega) (by omega) (by omega) ?_
  have F2 : FB h (hcp (hwF h 22 2 ah) 23 (0 : Int).toNat (0 : Int).toNat ((s0 : Int) * (21)).toNat (hA (hwF h 22 2 ah) c0)) 0 0 := FB_tr (FB_wF (o := 22) (f := 2) rfl) (FB_A (fun q hq => by
    funext j
    unfold av_cpy
    rw [if_neg (fun z => by have z1 := z.1; subst z1; cases hq)]))
  have F2f : ∀ q k, q ≠ 1 → q ≠ 22 → hF (hcp (hwF h 22 2 ah) 23 (0 : Int).toNat (0 : Int).toNat ((s0 : Int) * (21)).toNat (hA (hwF h 22 2 ah) c0)) q k = hF h q k := fun q k _ h2 => congrFun (av_u2_ne h2) k
  have F2a : ∀ a, a ≠ 23 → hA (hcp (hwF h 22 2 ah) 23 (0 : Int).toNat (0 : Int).toNat ((s0 : Int) * (21)).toNat (hA (hwF h 22 2 ah) c0)) a = hA h a := fun a ha => by
    funext j
    show av_cpy h.2.2.2.1 23 _ _ _ _ a j = _
    unfold av_cpy
    rw [if_neg (fun z => ha z.1)]
  have e22 : ∀ k, hF (hcp (hwF h 22 2 ah) 23 (0 : Int).toNat (0 : Int).toNat ((s0 : Int) * (21)).toNat (hA (hwF h 22 2 ah) c0)) 1 k = hF h 1 k := fun k => by
    show av_u2 h.2.2.2.2.1 22 2 ah 1 k = _
    rw [av_u2_ne (show (1 : Nat) ≠ 22 by decide)]
  have F2l : hF (hcp (hwF h 22 2 ah) 23 (0 : Int).toNat (0 : Int).toNat ((s0 : Int) * (21)).toNat (hA (hwF h 22 2 ah) c0)) 1 1 = hF h 1 1 := e22 1
  have F2r : hR (hcp (hwF h 22 2 ah) 23 (0 : Int).toNat (0 : Int).toNat ((s0 : Int) * (21)).toNat (hA (hwF h 22 2 ah) c0)) = hR h := rfl
  have A2 : hF (hcp (hwF h 22 2 ah) 23 (0 : Int).toNat (0 : Int).toNat ((s0 : Int) * (21)).toNat (hA (hwF h 22 2 ah) c0)) 22 2 = ah := hF_self
  have C2 : CT b lim t (cpr h c0 s0 r) d (hcp (hwF h 22 2 ah) 23 (0 : Int).toNat (0 : Int).toNat ((s0 : Int) * (21)).toNat (hA (hwF h 22 2 ah) c0)) := by
    refine ⟨C.1, (F2a 2 (by decide)).trans C.2.1, C.2.2.1, ?_, ?_, ?_, ?_, ?_, ?_, (F2a 25 (by decide)).trans (ct_d C), ct_wf C, fun j => ?_, ct_dv C⟩
    · exact (e22 2).trans (ct_l C)
    · exact (e22 3).trans (ct_f C)
    · exact (e22 4).trans (ct_p C)
    · exact (e22 5).trans (ct_s C)
    · exact (e22 6).trans (ct_w C)
    · funext j
      show av_cpy h.2.2.2.1 23 _ _ _ _ 23 j = _
      unfold av_cpy cpr
      by_cases e : j < 21 * s0
      · rw [if_pos ⟨rfl, by omega, by omega⟩, if_pos e]
        show hA h c0 (0 + (j - 0)) = _
        rw [show 0 + (j - 0) = j by omega]
      · rw [if_neg (fun z => by have z1 := z.2.2; omega), if_neg e]
        exact congrFun (ct_r C) j
    · unfold cpr
      split
      · have := co_v o j
        omega
      · exact ct_rv C j
  have W0 : ∀ q : Nat, q < s0 → -1 ≤ cpr h c0 s0 r (q * 21 + 1) ∧ cpr h c0 s0 r (q * 21 + 1) ≤ 2000 := fun q hq => by
    have e : cpr h c0 s0 r (q * 21 + 1) = hA h c0 (q * 21 + 1) := if_pos (by omega)
    rw [e]
    exact ⟨(co_v o _).1, hw _ (by omega) (by omega)⟩
  have V0 : VA s0 (cpr h c0 s0 r) := fun j hj => by
    have e : cpr h c0 s0 r j = hA h c0 j := if_pos (by omega)
    rw [e]
    refine ⟨(co_v o j).1, (co_v o j).2, fun h1 h2 => ?_, hw j (by omega)⟩
    have h3 := o.2.2.2.2.2.2.2.2.2 (j / 21) (j % 21 - 15) (by omega)
    rw [show 21 * (j / 21) + 15 + (j % 21 - 15) = j by omega] at h3
    exact h3
  have D0 : SD s0 (cpr h c0 s0 r) := fun q hq h2 => by
    have e : cpr h c0 s0 r (q * 21) = hA h c0 (q * 21) := if_pos (by omega)
    have e3 : cpr h c0 s0 r (q * 21 + 3) = hA h c0 (q * 21 + 3) := if_pos (by omega)
    rw [e] at h2
    rw [e3]
    exact hsd q hq h2
  have Z0 : ∀ j, 252 ≤ j → cpr h c0 s0 r j = 0 := fun j hj => (if_neg (by omega)).trans (hz j hj)
  clear e22
  generalize hcp (hwF h 22 2 ah) 23 (0 : Int).toNat (0 : Int).toNat ((s0 : Int) * (21)).toNat (hA (hwF h 22 2 ah) c0) = h2 at F2 F2f F2l F2r F2a A2 C2 ⊢
  generalize cpr h c0 s0 r = r1 at C2 W0 V0 D0 Z0 hq0 hq1
  have pp := rbf_p (b := b) (lim := lim) (ah := ah) qa.2 (13 - s0) s0 t r1 s12 (fun _ => W0)
  have g0 := ct_wf C2
  refine av_wp_seq 2 (pc' := 38) (lv' := [some (.inr (.inr (.inl (some (22))))), some (.inr (.inr (.inl (some (t0))))), some (.inl ah), some (.inl (s0 : Int)), some (.inl (s0 : Int)), some (.inl (s0 : Int))]) (st' := []) (h' := h2) rfl ?_
  have L : ∀ (n k : Nat) (t1 : TT) (r2 : Nat → Int) (h3 : av_H), n + k = 13 → k ≤ 12 → CT b lim t1 r2 d h3 → FT h2 h3 → rbf b lim ah n k t1 r2 = rbf b lim ah (13 - s0) s0 t r1 → av_wp none cd_35 38 [some (.inr (.inr (.inl (some (22))))), some (.inr (.inr (.inl (some (t0))))), some (.inl ah), some (.inl (s0 : Int)), some (.inl (k : Int)), some (.inl (k : Int))] [] h3 Q := by
    intro n
    induction n with
    | zero => intro k t1 r2 h3 e1 e2; exfalso; omega
    | succ n ih =>
      intro k t1 r2 h3 e1 e2 C1 F1 he
      have g1 := ct_wf C1
      refine av_wp_seq 2 (pc' := 42) (lv' := [some (.inr (.inr (.inl (some (22))))), some (.inr (.inr (.inl (some (t0))))), some (.inl ah), some (.inl (s0 : Int)), some (.inl (k : Int)), some (.inl (k : Int))]) (st' := [.inl (12), .inl (k : Int)]) (h' := h3) rfl ?_
      refine wq_k2 (p' := 45) rfl rfl ⟨by omega, by omega⟩ ⟨by omega, by omega⟩ (fun c1 => ?_) (fun c2 => ?_)
      · have c1 : (12) < (k : Int) := c1
        exfalso; omega
      · have c2 : (k : Int) ≤ (12) := c2
        refine av_wp_seq 1 (pc' := 46) (lv' := [some (.inr (.inr (.inl (some (22))))), some (.inr (.inr (.inl (some (t0))))), some (.inl ah), some (.inl (s0 : Int)), some (.inl (k : Int)), some (.inl (k : Int))]) (st' := [.inr (.inr (.inl (some (22))))]) (h' := h3) rfl ?_
        refine wq_gr (p' := 49) rfl rfl (congrArg Prod.fst (ly_k C1.1 22 rfl)) rfl (ly_g C1.1 22 0 1 rfl) ?_
        refine wq_cv (p' := 52) (av_qc (.invokevirtual 41) 84 0 0 6) 1 cd_84 [] (1) 6 [some (.inr (.inr (.inl (some (1)))))] rfl rfl rfl pp_84 rfl rfl rfl (congrArg Prod.fst (ly_k C1.1 1 rfl)) rfl rfl rfl rfl ?_
        refine ct_84 C1 F1 (fun v3 p4 => ?_)
        show av_wp _ cd_35 52 [some (.inr (.inr (.inl (some (22))))), some (.inr (.inr (.inl (some (t0))))), some (.inl ah), some (.inl (s0 : Int)), some (.inl (k : Int)), some (.inl (k : Int))] [.inl v3] h3 _
        refine wq_k1 (p' := 55) rfl rfl ⟨by omega, by omega⟩ (fun c5 => ?_) (fun c6 => ?_)
        · have c5 : v3 = (0) := c5
          have hx : rbf b lim ah (13 - s0) s0 t r1 = (k, t1, r2) := by rw [← he]; unfold rbf; rw [if_neg (by omega)]
          rw [hx] at pp
          have pp1 : s0 ≤ k ∧ k ≤ 12 := ⟨pp.1, pp.2.1⟩
          have pp2 : ∀ j, j < s0 * 21 ∨ 252 ≤ j → r2 j = r1 j := pp.2.2.1
          have pp3 : t1.2.2.2 = -1 → t.2.2.2 = -1 ∧ (VA s0 r1 → VA k r2) ∧ (SD s0 r1 → SD k r2) := pp.2.2.2
          refine av_wp_seq 2 (pc' := 93) (lv' := [some (.inr (.inr (.inl (some (22))))), some (.inr (.inr (.inl (some (t0))))), some (.inl ah), some (.inl (s0 : Int)), some (.inl (k : Int)), some (.inl (k : Int))]) (st' := [.inl (s0 : Int), .inl (k : Int)]) (h' := h3) rfl ?_
          refine wq_k2 (p' := 96) rfl rfl ⟨by omega, by omega⟩ ⟨by omega, by omega⟩ (fun c7 => ?_) (fun c8 => ?_)
          · have c7 : (k : Int) ≠ (s0 : Int) := c7
            have hX : rbA b lim ah s0 t r1 = (k, t1, r2) := by simp only [rbA, hx, if_neg (show ¬ k = s0 by omega)]
            rw [hX] at hq0 hq1
            have zr : ∀ j, 252 ≤ j → r2 j = 0 := fun j hj => (pp2 j (Or.inr hj)).trans (Z0 j hj)
            have ft := F1
            have gF := FB_tr F2 (FB_T ft)
            have gf : ∀ q k, q ≠ 1 → q ≠ 22 → hF h3 q k = hF h q k := fun q k h1 h2 => (ft.2.2.2.2.2.1 q k (by simp only [tF, nbeq h1, Bool.false_and])).trans (F2f q k h1 h2)
            have ga : ∀ a, a ≠ 23 → hA h3 a = hA h a := fun a ha => by
              by_cases e25 : a = 25
              · subst e25; exact (ct_d C1).trans (ct_d C).symm
              · exact (ft.2.2.2.2.2.2 a ha e25).trans (F2a a ha)
            have gr : hR h3 = hR h := ft.2.2.2.1.trans F2r
            have gl : hF h3 1 1 = hF h 1 1 := (ft.2.2.2.2.2.1 1 1 rfl).trans F2l
            refine av_wp_seq 1 (pc' := 104) (lv' := [some (.inr (.inr (.inl (some (22))))), some (.inr (.inr (.inl (some (t0))))), some (.inl ah), some (.inl (s0 : Int)), some (.inl (k : Int)), some (.inl (k : Int))]) (st' := [.inr (.inr (.inl (some (22))))]) (h' := h3) rfl ?_
            refine wq_gr (p' := 107) rfl rfl (congrArg Prod.fst (ly_k C1.1 22 rfl)) rfl (ly_g C1.1 22 0 1 rfl) ?_
            refine wq_gi (p' := 110) rfl rfl (congrArg Prod.fst (ly_k C1.1 1 rfl)) rfl (ct_w C1) ?_
            refine av_wp_seq 1 (pc' := 111) (lv' := [some (.inr (.inr (.inl (some (22))))), some (.inr (.inr (.inl (some (t0))))), some (.inl ah), some (.inl (s0 : Int)), some (.inl (k : Int)), some (.inl (k : Int))]) (st' := [.inl (-1), .inl t1.2.2.2]) (h' := h3) rfl ?_
            refine wq_k2 (p' := 114) rfl rfl ⟨by omega, by omega⟩ ⟨by omega, by omega⟩ (fun c9 => ?_) (fun c10 => ?_)
            · have c9 : t1.2.2.2 ≠ (-1) := c9
              refine av_wp_seq 1 (pc' := 131) (lv' := [some (.inr (.inr (.inl (some (22))))), some (.inr (.inr (.inl (some (t0))))), some (.inl ah), some (.inl (s0 : Int)), some (.inl (k : Int)), some (.inl (k : Int))]) (st' := [.inr (.inr (.inl none))]) (h' := h3) rfl ?_
              refine av_wp_ret (v := some (.inr (.inr (.inl none)))) rfl rfl rfl ?_
              exact hq0 (by omega) h3 C1 gF gf gl gr ga zr
            · have c10 : t1.2.2.2 = (-1) := c10
              intro hg
              have l122 : 121 < h3.1 := ly_lt hg C1.1 (by omega)
              have ctal5 : ∀ h5 : av_H, AL h3 h5 2 (4 + 21 * k) → CT b lim t1 r2 d h5 := fun h5 a5 => CT_al hg C1 a5
              revert hg
              show av_wp none cd_35 114 [some (.inr (.inr (.inl (some (22))))), some (.inr (.inr (.inl (some (t0))))), some (.inl ah), some (.inl (s0 : Int)), some (.inl (k : Int)), some (.inl (k : Int))] [] h3 Q
              refine av_wp_seq 3 (pc' := 119) (lv' := [some (.inr (.inr (.inl (some (22))))), some (.inr (.inr (.inl (some (t0))))), some (.inl ah), some (.inl (s0 : Int)), some (.inl (k : Int)), some (.inl (k : Int))]) (st' := [.inr (.inr (.inl (some 22))), .inr (.inr (.inl (some h3.1))), .inr (.inr (.inl (some h3.1)))]) (h' := (av_newO 1 4 h3)) rfl ?_
              have kq : ∀ q, q < 122 → hK (av_newO 1 4 h3) q = hK h3 q := fun q hq => if_neg (by omega)
              have gq : ∀ q f, q < 122 → hG (av_newO 1 4 h3) q f = hG h3 q f := fun q f hq => by
                show av_u1 h3.2.2.2.2.2.1 h3.1 (fun _ => none) q f = _
                rw [show av_u1 h3.2.2.2.2.2.1 h3.1 (fun _ => none) q = h3.2.2.2.2.2.1 q from if_neg (by omega)]
              refine wq_gr (p' := 122) (v := some 23) rfl rfl (congrArg Prod.fst ((kq 22 (by omega)).trans (ly_k C1.1 22 rfl))) rfl ((gq 22 1 (by omega)).trans (ly_g C1.1 22 1 23 rfl)) ?_
              refine av_wp_seq 1 (pc' := 124) (lv' := [some (.inr (.inr (.inl (some (22))))), some (.inr (.inr (.inl (some (t0))))), some (.inl ah), some (.inl (s0 : Int)), some (.inl (k : Int)), some (.inl (k : Int))]) (st' := [.inl (k : Int), .inr (.inr (.inl (some 23))), .inr (.inr (.inl (some h3.1))), .inr (.inr (.inl (some h3.1)))]) (h' := (av_newO 1 4 h3)) rfl ?_
              refine wq_cv (p' := 127) (av_qc (.invokespecial 57) 27 2 1 1) 9 cd_27 [.inl (k : Int), .inr (.inr (.inl (some 23)))] (h3.1) 1 [some (.inr (.inr (.inl (some h3.1)))), some (.inr (.inr (.inl (some 23)))), some (.inl (k : Int)), none, none, none, none, none, none] rfl rfl rfl pp_27 rfl rfl rfl (congrArg Prod.fst (show hK (av_newO 1 4 h3) h3.1 = (1, 0) from if_pos rfl)) rfl rfl rfl rfl ?_
              have vk := (pp3 (by omega)).2.1 V0
              have dk := (pp3 (by omega)).2.2 D0
              have ha23 : hA (av_newO 1 4 h3) 23 = r2 := (show hA (av_newO 1 4 h3) 23 = hA h3 23 from rfl).trans (ct_r C1)
              refine ct_27 (n := 252) (s := k) (show hK (av_newO 1 4 h3) h3.1 = (1, 0) from if_pos rfl) (by show h3.1 ≠ h3.1 + 1; omega) (by show 23 ≠ h3.1 + 1; omega) ((kq 23 (by omega)).trans (ly_k C1.1 23 rfl)) pp1.2 (by omega) (by omega) (fun j hj => by rw [ha23]; have z := vk j (by omega); exact ⟨z.1, z.2.1, z.2.2.1⟩) _ rfl (fun f h5 f1 f2 N5 => ?_)
              show av_wp _ cd_35 127 [some (.inr (.inr (.inl (some (22))))), some (.inr (.inr (.inl (some (t0))))), some (.inl ah), some (.inl (s0 : Int)), some (.inl (k : Int)), some (.inl (k : Int))] [.inr (.inr (.inl (some h3.1)))] h5 _
              obtain ⟨x5, a5⟩ := nc_cx N5
              rw [ha23] at f1 f2
              have v5 : FV k f := by
                have zf : ∀ j, 21 * k ≤ j → f j = 0 := fun j hj => by
                  rcases f2 j hj with h1 | h1
                  · exact h1
                  · rw [h1.2]; exact zr j (by omega)
                refine ⟨pp1.2, fun j => ?_, fun q j hj => ?_, fun j hj => ?_⟩
                · by_cases c : j < 21 * k
                  · rw [f1 j c]; exact ⟨(vk j (by omega)).1, (vk j (by omega)).2.1⟩
                  · rw [zf j (by omega)]; omega
                · by_cases c : 21 * q + 15 + j < 21 * k
                  · rw [f1 _ c]; exact (vk _ (by omega)).2.2.1 (by omega) (by omega)
                  · rw [zf _ (by omega)]; omega
                · by_cases c : j < 21 * k
                  · rw [f1 j c]; exact (vk j (by omega)).2.2.2 hj
                  · rw [zf j (by omega)]; omega
              have d5 : SD k f := fun q hq h2 => by
                rw [f1 _ (by omega)] at h2
                rw [f1 _ (by omega)]
                exact dk q hq h2
              refine av_wp_seq 1 (pc' := 131) (lv' := [some (.inr (.inr (.inl (some (22))))), some (.inr (.inr (.inl (some (t0))))), some (.inl ah), some (.inl (s0 : Int)), some (.inl (k : Int)), some (.inl (k : Int))]) (st' := [.inr (.inr (.inl (some h3.1)))]) (h' := h5) rfl ?_
              intro hg5
              refine av_wp_ret (v := some (.inr (.inr (.inl (some h3.1))))) rfl rfl rfl ?_ hg5
              exact hq1 (by omega) h5 h3 f C1 a5 (ctal5 h5 a5) gF gf gl gr ga zr x5 v5 d5 (by omega) f1 (by omega)
          · have c8 : (k : Int) = (s0 : Int) := c8
            refine av_wp_seq 1 (pc' := 97) (lv' := [some (.inr (.inr (.inl (some (22))))), some (.inr (.inr (.inl (some (t0))))), some (.inl ah), some (.inl (s0 : Int)), some (.inl (k : Int)), some (.inl (k : Int))]) (st' := [.inr (.inr (.inl (some (22))))]) (h' := h3) rfl ?_
            refine wq_gr (p' := 100) rfl rfl (congrArg Prod.fst (ly_k C1.1 22 rfl)) rfl (ly_g C1.1 22 0 1 rfl) ?_
            refine wq_cv (p' := 103) (av_qc (.invokevirtual 47) 85 0 0 6) 1 cd_85 [] (1) 6 [some (.inr (.inr (.inl (some (1)))))] rfl rfl rfl pp_85 rfl rfl rfl (congrArg Prod.fst (ly_k C1.1 1 rfl)) rfl rfl rfl rfl ?_
            refine ct_85 C1 F1 (fun h11 C12 F13 => ?_)
            generalize q15 : fal t1 = t14 at C12
            have gfal : t14.2.2.2 ≠ -1 := by rw [← q15]; exact fal_ne
            have g16 := ct_wf C12
            show av_wp _ cd_35 103 [some (.inr (.inr (.inl (some (22))))), some (.inr (.inr (.inl (some (t0))))), some (.inl ah), some (.inl (s0 : Int)), some (.inl (k : Int)), some (.inl (k : Int))] [] h11 _
            have hX : rbA b lim ah s0 t r1 = (k, t14, r2) := by simp only [rbA, hx, if_pos (show k = s0 by omega), q15]
            rw [hX] at hq0 hq1
            have zr : ∀ j, 252 ≤ j → r2 j = 0 := fun j hj => (pp2 j (Or.inr hj)).trans (Z0 j hj)
            have ft := F13
            have gF := FB_tr F2 (FB_T ft)
            have gf : ∀ q k, q ≠ 1 → q ≠ 22 → hF h11 q k = hF h q k := fun q k h1 h2 => (ft.2.2.2.2.2.1 q k (by simp only [tF, nbeq h1, Bool.false_and])).trans (F2f q k h1 h2)
            have ga : ∀ a, a ≠ 23 → hA h11 a = hA h a := fun a ha => by
              by_cases e25 : a = 25
              · subst e25; exact (ct_d C12).trans (ct_d C).symm
              · exact (ft.2.2.2.2.2.2 a ha e25).trans (F2a a ha)
            have gr : hR h11 = hR h := ft.2.2.2.1.trans F2r
            have gl : hF h11 1 1 = hF h 1 1 := (ft.2.2.2.2.2.1 1 1 rfl).trans F2l
            refine av_wp_seq 1 (pc' := 104) (lv' := [some (.inr (.inr (.inl (some (22))))), some (.inr (.inr (.inl (some (t0))))), some (.inl ah), some (.inl (s0 : Int)), some (.inl (k : Int)), some (.inl (k : Int))]) (st' := [.inr (.inr (.inl (some (22))))]) (h' := h11) rfl ?_
            refine wq_gr (p' := 107) rfl rfl (congrArg Prod.fst (ly_k C12.1 22 rfl)) rfl (ly_g C12.1 22 0 1 rfl) ?_
            refine wq_gi (p' := 110) rfl rfl (congrArg Prod.fst (ly_k C12.1 1 rfl)) rfl (ct_w C12) ?_
            refine av_wp_seq 1 (pc' := 111) (lv' := [some (.inr (.inr (.inl (some (22))))), some (.inr (.inr (.inl (some (t0))))), some (.inl ah), some (.inl (s0 : Int)), some (.inl (k : Int)), some (.inl (k : Int))]) (st' := [.inl (-1), .inl t14.2.2.2]) (h' := h11) rfl ?_
            refine wq_k2 (p' := 114) rfl rfl ⟨by omega, by omega⟩ ⟨by omega, by omega⟩ (fun c17 => ?_) (fun c18 => ?_)
            · have c17 : t14.2.2.2 ≠ (-1) := c17
              refine av_wp_seq 1 (pc' := 131) (lv' := [some (.inr (.inr (.inl (some (22))))), some (.inr (.inr (.inl (some (t0))))), some (.inl ah), some (.inl (s0 : Int)), some (.inl (k : Int)), some (.inl (k : Int))]) (st' := [.inr (.inr (.inl none))]) (h' := h11) rfl ?_
              refine av_wp_ret (v := some (.inr (.inr (.inl none)))) rfl rfl rfl ?_
              exact hq0 (by omega) h11 C12 gF gf gl gr ga zr
            · have c18 : t14.2.2.2 = (-1) := c18
              intro hg
              have l122 : 121 < h11.1 := ly_lt hg C12.1 (by omega)
              have ctal5 : ∀ h5 : av_H, AL h11 h5 2 (4 + 21 * k) → CT b lim t14 r2 d h5 := fun h5 a5 => CT_al hg C12 a5
              revert hg
              show av_wp none cd_35 114 [some (.inr (.inr (.inl (some (22))))), some (.inr (.inr (.inl (some (t0))))), some (.inl ah), some (.inl (s0 : Int)), some (.inl (k : Int)), some (.inl (k : Int))] [] h11 Q
              refine av_wp_seq 3 (pc' := 119) (lv' := [some (.inr (.inr (.inl (some (22))))), some (.inr (.inr (.inl (some (t0))))), some (.inl ah), some (.inl (s0 : Int)), some (.inl (k : Int)), some (.inl (k : Int))]) (st' := [.inr (.inr (.inl (some 22))), .inr (.inr (.inl (some h11.1))), .inr (.inr (.inl (some h11.1)))]) (h' := (av_newO 1 4 h11)) rfl ?_
              have kq : ∀ q, q < 122 → hK (av_newO 1 4 h11) q = hK h11 q := fun q hq => if_neg (by omega)
              have gq : ∀ q f, q < 122 → hG (av_newO 1 4 h11) q f = hG h11 q f := fun q f hq => by
                show av_u1 h11.2.2.2.2.2.1 h11.1 (fun _ => none) q f = _
                rw [show av_u1 h11.2.2.2.2.2.1 h11.1 (fun _ => none) q = h11.2.2.2.2.2.1 q from if_neg (by omega)]
              refine wq_gr (p' := 122) (v := some 23) rfl rfl (congrArg Prod.fst ((kq 22 (by omega)).trans (ly_k C12.1 22 rfl))) rfl ((gq 22 1 (by omega)).trans (ly_g C12.1 22 1 23 rfl)) ?_
              refine av_wp_seq 1 (pc' := 124) (lv' := [some (.inr (.inr (.inl (some (22))))), some (.inr (.inr (.inl (some (t0))))), some (.inl ah), some (.inl (s0 : Int)), some (.inl (k : Int)), some (.inl (k : Int))]) (st' := [.inl (k : Int), .inr (.inr (.inl (some 23))), .inr (.inr (.inl (some h11.1))), .inr (.inr (.inl (some h11.1)))]) (h' := (av_newO 1 4 h11)) rfl ?_
              refine wq_cv (p' := 127) (av_qc (.invokespecial 57) 27 2 1 1) 9 cd_27 [.inl (k : Int), .inr (.inr (.inl (some 23)))] (h11.1) 1 [some (.inr (.inr (.inl (some h11.1)))), some (.inr (.inr (.inl (some 23)))), some (.inl (k : Int)), none, none, none, none, none, none] rfl rfl rfl pp_27 rfl rfl rfl (congrArg Prod.fst (show hK (av_newO 1 4 h11) h11.1 = (1, 0) from if_pos rfl)) rfl rfl rfl rfl ?_
              have vk := (pp3 (by omega)).2.1 V0
              have dk := (pp3 (by omega)).2.2 D0
              have ha23 : hA (av_newO 1 4 h11) 23 = r2 := (show hA (av_newO 1 4 h11) 23 = hA h11 23 from rfl).trans (ct_r C12)
              refine ct_27 (n := 252) (s := k) (show hK (av_newO 1 4 h11) h11.1 = (1, 0) from if_pos rfl) (by show h11.1 ≠ h11.1 + 1; omega) (by show 23 ≠ h11.1 + 1; omega) ((kq 23 (by omega)).trans (ly_k C12.1 23 rfl)) pp1.2 (by omega) (by omega) (fun j hj => by rw [ha23]; have z := vk j (by omega); exact ⟨z.1, z.2.1, z.2.2.1⟩) _ rfl (fun f h5 f1 f2 N5 => ?_)
              show av_wp _ cd_35 127 [some (.inr (.inr (.inl (some (22))))), some (.inr (.inr (.inl (some (t0))))), some (.inl ah), some (.inl (s0 : Int)), some (.inl (k : Int)), some (.inl (k : Int))] [.inr (.inr (.inl (some h11.1)))] h5 _
              obtain ⟨x5, a5⟩ := nc_cx N5
              rw [ha23] at f1 f2
              have v5 : FV k f := by
                have zf : ∀ j, 21 * k ≤ j → f j = 0 := fun j hj => by
                  rcases f2 j hj with h1 | h1
                  · exact h1
                  · rw [h1.2]; exact zr j (by omega)
                refine ⟨pp1.2, fun j => ?_, fun q j hj => ?_, fun j hj => ?_⟩
                · by_cases c : j < 21 * k
                  · rw [f1 j c]; exact ⟨(vk j (by omega)).1, (vk j (by omega)).2.1⟩
                  · rw [zf j (by omega)]; omega
                · by_cases c : 21 * q + 15 + j < 21 * k
                  · rw [f1 _ c]; exact (vk _ (by omega)).2.2.1 (by omega) (by omega)
                  · rw [zf _ (by omega)]; omega
                · by_cases c : j < 21 * k
                  · rw [f1 j c]; exact (vk j (by omega)).2.2.2 hj
                  · rw [zf j (by omega)]; omega
              have d5 : SD k f := fun q hq h2 => by
                rw [f1 _ (by omega)] at h2
                rw [f1 _ (by omega)]
                exact dk q hq h2
              refine av_wp_seq 1 (pc' := 131) (lv' := [some (.inr (.inr (.inl (some (22))))), some (.inr (.inr (.inl (some (t0))))), some (.inl ah), some (.inl (s0 : Int)), some (.inl (k : Int)), some (.inl (k : Int))]) (st' := [.inr (.inr (.inl (some h11.1)))]) (h' := h5) rfl ?_
              intro hg5
              refine av_wp_ret (v := some (.inr (.inr (.inl (some h11.1))))) rfl rfl rfl ?_ hg5
              exact hq1 (by omega) h5 h11 f C12 a5 (ctal5 h5 a5) gF gf gl gr ga zr x5 v5 d5 (by omega) f1 (by omega)
        · have c6 : v3 ≠ (0) := c6
          refine av_wp_seq 2 (pc' := 59) (lv' := [some (.inr (.inr (.inl (some (22))))), some (.inr (.inr (.inl (some (t0))))), some (.inl ah), some (.inl (s0 : Int)), some (.inl (k : Int)), some (.inl (k : Int))]) (st' := [.inl (12), .inl (k : Int)]) (h' := h3) rfl ?_
          refine wq_k2 (p' := 62) rfl rfl ⟨by omega, by omega⟩ ⟨by omega, by omega⟩ (fun c19 => ?_) (fun c20 => ?_)
          · have c19 : (k : Int) ≠ (12) := c19
            refine av_wp_seq 2 (pc' := 75) (lv' := [some (.inr (.inr (.inl (some (22))))), some (.inr (.inr (.inl (some (t0))))), some (.inl ah), some (.inl (s0 : Int)), some (.inl (k : Int)), some (.inl (k : Int))]) (st' := [.inl (k : Int), .inr (.inr (.inl (some (22))))]) (h' := h3) rfl ?_
            refine wq_cv (p' := 78) (av_qc (.invokevirtual 50) 36 1 0 2) 5 cd_36 [.inl (k : Int)] (22) 2 [some (.inr (.inr (.inl (some (22))))), some (.inl (k : Int)), none, none, none] rfl rfl rfl pp_36 rfl rfl rfl (congrArg Prod.fst (ly_k C1.1 22 rfl)) rfl rfl rfl rfl ?_
            refine ct_36 C1 F1 A2 (by omega) _ k rfl (by omega) (fun h21 C22 F23 => ?_)
            have g24 := ct_wf C22
            show av_wp _ cd_35 78 [some (.inr (.inr (.inl (some (22))))), some (.inr (.inr (.inl (some (t0))))), some (.inl ah), some (.inl (s0 : Int)), some (.inl (k : Int)), some (.inl (k : Int))] [] h21 _
            refine av_wp_seq 6 (pc' := 38) (lv' := [some (.inr (.inr (.inl (some (22))))), some (.inr (.inr (.inl (some (t0))))), some (.inl ah), some (.inl (s0 : Int)), some (.inl ((k : Int) + (1))), some (.inl ((k : Int) + (1)))]) (st' := []) (h' := h21) rfl ?_
            have he2 : rbf b lim ah n (k + 1) (rsy b lim k ah t1 r2).1 (rsy b lim k ah t1 r2).2 = rbf b lim ah (13 - s0) s0 t r1 := by
              rw [← he]
              conv => rhs; unfold rbf
              rw [if_pos (by omega), if_neg (by omega)]
            exact ih (k + 1) _ _ h21 (by omega) (by omega) C22 F23 he2
          · have c20 : (k : Int) = (12) := c20
            refine av_wp_seq 1 (pc' := 63) (lv' := [some (.inr (.inr (.inl (some (22))))), some (.inr (.inr (.inl (some (t0))))), some (.inl ah), some (.inl (s0 : Int)), some (.inl (k : Int)), some (.inl (k : Int))]) (st' := [.inr (.inr (.inl (some (22))))]) (h' := h3) rfl ?_
            refine wq_gr (p' := 66) rfl rfl (congrArg Prod.fst (ly_k C1.1 22 rfl)) rfl (ly_g C1.1 22 0 1 rfl) ?_
            refine wq_cv (p' := 69) (av_qc (.invokevirtual 47) 85 0 0 6) 1 cd_85 [] (1) 6 [some (.inr (.inr (.inl (some (1)))))] rfl rfl rfl pp_85 rfl rfl rfl (congrArg Prod.fst (ly_k C1.1 1 rfl)) rfl rfl rfl rfl ?_
            refine ct_85 C1 F1 (fun h25 C26 F27 => ?_)
            generalize q29 : fal t1 = t28 at C26
            have gfal : t28.2.2.2 ≠ -1 := by rw [← q29]; exact fal_ne
            have g30 := ct_wf C26
            show av_wp _ cd_35 69 [some (.inr (.inr (.inl (some (22))))), some (.inr (.inr (.inl (some (t0))))), some (.inl ah), some (.inl (s0 : Int)), some (.inl (k : Int)), some (.inl (k : Int))] [] h25 _
            refine av_wp_seq 3 (pc' := 38) (lv' := [some (.inr (.inr (.inl (some (22))))), some (.inr (.inr (.inl (some (t0))))), some (.inl ah), some (.inl (s0 : Int)), some (.inl (k : Int)), some (.inl ((k : Int) + (1)))]) (st' := []) (h' := h25) rfl ?_
            refine av_wp_seq 2 (pc' := 42) (lv' := [some (.inr (.inr (.inl (some (22))))), some (.inr (.inr (.inl (some (t0))))), some (.inl ah), some (.inl (s0 : Int)), some (.inl (k : Int)), some (.inl ((k : Int) + (1)))]) (st' := [.inl (12), .inl ((k : Int) + (1))]) (h' := h25) rfl ?_
            refine wq_k2 (p' := 45) rfl rfl ⟨by omega, by omega⟩ ⟨by omega, by omega⟩ (fun c31 => ?_) (fun c32 => ?_)
            · have c31 : (12) < ((k : Int) + (1)) := c31
              have hx : rbf b lim ah (13 - s0) s0 t r1 = (k, t28, r2) := by rw [← he]; unfold rbf; rw [if_pos (by omega), if_pos (by omega), q29]
              rw [hx] at pp
              have pp1 : s0 ≤ k ∧ k ≤ 12 := ⟨pp.1, pp.2.1⟩
              have pp2 : ∀ j, j < s0 * 21 ∨ 252 ≤ j → r2 j = r1 j := pp.2.2.1
              have pp3 : t28.2.2.2 = -1 → t.2.2.2 = -1 ∧ (VA s0 r1 → VA k r2) ∧ (SD s0 r1 → SD k r2) := pp.2.2.2
              refine av_wp_seq 2 (pc' := 93) (lv' := [some (.inr (.inr (.inl (some (22))))), some (.inr (.inr (.inl (some (t0))))), some (.inl ah), some (.inl (s0 : Int)), some (.inl (k : Int)), some (.inl ((k : Int) + (1)))]) (st' := [.inl (s0 : Int), .inl (k : Int)]) (h' := h25) rfl ?_
              refine wq_k2 (p' := 96) rfl rfl ⟨by omega, by omega⟩ ⟨by omega, by omega⟩ (fun c33 => ?_) (fun c34 => ?_)
              · have c33 : (k : Int) ≠ (s0 : Int) := c33
                have hX : rbA b lim ah s0 t r1 = (k, t28, r2) := by simp only [rbA, hx, if_neg (show ¬ k = s0 by omega)]
                rw [hX] at hq0 hq1
                have zr : ∀ j, 252 ≤ j → r2 j = 0 := fun j hj => (pp2 j (Or.inr hj)).trans (Z0 j hj)
                have ft := F27
                have gF := FB_tr F2 (FB_T ft)
                have gf : ∀ q k, q ≠ 1 → q ≠ 22 → hF h25 q k = hF h q k := fun q k h1 h2 => (ft.2.2.2.2.2.1 q k (by simp only [tF, nbeq h1, Bool.false_and])).trans (F2f q k h1 h2)
                have ga : ∀ a, a ≠ 23 → hA h25 a = hA h a := fun a ha => by
                  by_cases e25 : a = 25
                  · subst e25; exact (ct_d C26).trans (ct_d C).symm
                  · exact (ft.2.2.2.2.2.2 a ha e25).trans (F2a a ha)
                have gr : hR h25 = hR h := ft.2.2.2.1.trans F2r
                have gl : hF h25 1 1 = hF h 1 1 := (ft.2.2.2.2.2.1 1 1 rfl).trans F2l
                refine av_wp_seq 1 (pc' := 104) (lv' := [some (.inr (.inr (.inl (some (22))))), some (.inr (.inr (.inl (some (t0))))), some (.inl ah), some (.inl (s0 : Int)), some (.inl (k : Int)), some (.inl ((k : Int) + (1)))]) (st' := [.inr (.inr (.inl (some (22))))]) (h' := h25) rfl ?_
                refine wq_gr (p' := 107) rfl rfl (congrArg Prod.fst (ly_k C26.1 22 rfl)) rfl (ly_g C26.1 22 0 1 rfl) ?_
                refine wq_gi (p' := 110) rfl rfl (congrArg Prod.fst (ly_k C26.1 1 rfl)) rfl (ct_w C26) ?_
                refine av_wp_seq 1 (pc' := 111) (lv' := [some (.inr (.inr (.inl (some (22))))), some (.inr (.inr (.inl (some (t0))))), some (.inl ah), some (.inl (s0 : Int)), some (.inl (k : Int)), some (.inl ((k : Int) + (1)))]) (st' := [.inl (-1), .inl t28.2.2.2]) (h' := h25) rfl ?_
                refine wq_k2 (p' := 114) rfl rfl ⟨by omega, by omega⟩ ⟨by omega, by omega⟩ (fun c35 => ?_) (fun c36 => ?_)
                · have c35 : t28.2.2.2 ≠ (-1) := c35
                  refine av_wp_seq 1 (pc' := 131) (lv' := [some (.inr (.inr (.inl (some (22))))), some (.inr (.inr (.inl (some (t0))))), some (.inl ah), some (.inl (s0 : Int)), some (.inl (k : Int)), some (.inl ((k : Int) + (1)))]) (st' := [.inr (.inr (.inl none))]) (h' := h25) rfl ?_
                  refine av_wp_ret (v := some (.inr (.inr (.inl none)))) rfl rfl rfl ?_
                  exact hq0 (by omega) h25 C26 gF gf gl gr ga zr
                · have c36 : t28.2.2.2 = (-1) := c36
                  intro hg
                  have l122 : 121 < h25.1 := ly_lt hg C26.1 (by omega)
                  have ctal5 : ∀ h5 : av_H, AL h25 h5 2 (4 + 21 * k) → CT b lim t28 r2 d h5 := fun h5 a5 => CT_al hg C26 a5
                  revert hg
                  show av_wp none cd_35 114 [some (.inr (.inr (.inl (some (22))))), some (.inr (.inr (.inl (some (t0))))), some (.inl ah), some (.inl (s0 : Int)), some (.inl (k : Int)), some (.inl ((k : Int) + (1)))] [] h25 Q
                  refine av_wp_seq 3 (pc' := 119) (lv' := [some (.inr (.inr (.inl (some (22))))), some (.inr (.inr (.inl (some (t0))))), some (.inl ah), some (.inl (s0 : Int)), some (.inl (k : Int)), some (.inl ((k : Int) + (1)))]) (st' := [.inr (.inr (.inl (some 22))), .inr (.inr (.inl (some h25.1))), .inr (.inr (.inl (some h25.1)))]) (h' := (av_newO 1 4 h25)) rfl ?_
                  have kq : ∀ q, q < 122 → hK (av_newO 1 4 h25) q = hK h25 q := fun q hq => if_neg (by omega)
                  have gq : ∀ q f, q < 122 → hG (av_newO 1 4 h25) q f = hG h25 q f := fun q f hq => by
                    show av_u1 h25.2.2.2.2.2.1 h25.1 (fun _ => none) q f = _
                    rw [show av_u1 h25.2.2.2.2.2.1 h25.1 (fun _ => none) q = h25.2.2.2.2.2.1 q from if_neg (by omega)]
                  refine wq_gr (p' := 122) (v := some 23) rfl rfl (congrArg Prod.fst ((kq 22 (by omega)).trans (ly_k C26.1 22 rfl))) rfl ((gq 22 1 (by omega)).trans (ly_g C26.1 22 1 23 rfl)) ?_
                  refine av_wp_seq 1 (pc' := 124) (lv' := [some (.inr (.inr (.inl (some (22))))), some (.inr (.inr (.inl (some (t0))))), some (.inl ah), some (.inl (s0 : Int)), some (.inl (k : Int)), some (.inl ((k : Int) + (1)))]) (st' := [.inl (k : Int), .inr (.inr (.inl (some 23))), .inr (.inr (.inl (some h25.1))), .inr (.inr (.inl (some h25.1)))]) (h' := (av_newO 1 4 h25)) rfl ?_
                  refine wq_cv (p' := 127) (av_qc (.invokespecial 57) 27 2 1 1) 9 cd_27 [.inl (k : Int), .inr (.inr (.inl (some 23)))] (h25.1) 1 [some (.inr (.inr (.inl (some h25.1)))), some (.inr (.inr (.inl (some 23)))), some (.inl (k : Int)), none, none, none, none, none, none] rfl rfl rfl pp_27 rfl rfl rfl (congrArg Prod.fst (show hK (av_newO 1 4 h25) h25.1 = (1, 0) from if_pos rfl)) rfl rfl rfl rfl ?_
                  have vk := (pp3 (by omega)).2.1 V0
                  have dk := (pp3 (by omega)).2.2 D0
                  have ha23 : hA (av_newO 1 4 h25) 23 = r2 := (show hA (av_newO 1 4 h25) 23 = hA h25 23 from rfl).trans (ct_r C26)
                  refine ct_27 (n := 252) (s := k) (show hK (av_newO 1 4 h25) h25.1 = (1, 0) from if_pos rfl) (by show h25.1 ≠ h25.1 + 1; omega) (by show 23 ≠ h25.1 + 1; omega) ((kq 23 (by omega)).trans (ly_k C26.1 23 rfl)) pp1.2 (by omega) (by omega) (fun j hj => by rw [ha23]; have z := vk j (by omega); exact ⟨z.1, z.2.1, z.2.2.1⟩) _ rfl (fun f h5 f1 f2 N5 => ?_)
                  show av_wp _ cd_35 127 [some (.inr (.inr (.inl (some (22))))), some (.inr (.inr (.inl (some (t0))))), some (.inl ah), some (.inl (s0 : Int)), some (.inl (k : Int)), some (.inl ((k : Int) + (1)))] [.inr (.inr (.inl (some h25.1)))] h5 _
                  obtain ⟨x5, a5⟩ := nc_cx N5
                  rw [ha23] at f1 f2
                  have v5 : FV k f := by
                    have zf : ∀ j, 21 * k ≤ j → f j = 0 := fun j hj => by
                      rcases f2 j hj with h1 | h1
                      · exact h1
                      · rw [h1.2]; exact zr j (by omega)
                    refine ⟨pp1.2, fun j => ?_, fun q j hj => ?_, fun j hj => ?_⟩
                    · by_cases c : j < 21 * k
                      · rw [f1 j c]; exact ⟨(vk j (by omega)).1, (vk j (by omega)).2.1⟩
                      · rw [zf j (by omega)]; omega
                    · by_cases c : 21 * q + 15 + j < 21 * k
                      · rw [f1 _ c]; exact (vk _ (by omega)).2.2.1 (by omega) (by omega)
                      · rw [zf _ (by omega)]; omega
                    · by_cases c : j < 21 * k
                      · rw [f1 j c]; exact (vk j (by omega)).2.2.2 hj
                      · rw [zf j (by omega)]; omega
                  have d5 : SD k f := fun q hq h2 => by
                    rw [f1 _ (by omega)] at h2
                    rw [f1 _ (by omega)]
                    exact dk q hq h2
                  refine av_wp_seq 1 (pc' := 131) (lv' := [some (.inr (.inr (.inl (some (22))))), some (.inr (.inr (.inl (some (t0))))), some (.inl ah), some (.inl (s0 : Int)), some (.inl (k : Int)), some (.inl ((k : Int) + (1)))]) (st' := [.inr (.inr (.inl (some h25.1)))]) (h' := h5) rfl ?_
                  intro hg5
                  refine av_wp_ret (v := some (.inr (.inr (.inl (some h25.1))))) rfl rfl rfl ?_ hg5
                  exact hq1 (by omega) h5 h25 f C26 a5 (ctal5 h5 a5) gF gf gl gr ga zr x5 v5 d5 (by omega) f1 (by omega)
              · have c34 : (k : Int) = (s0 : Int) := c34
                refine av_wp_seq 1 (pc' := 97) (lv' := [some (.inr (.inr (.inl (some (22))))), some (.inr (.inr (.inl (some (t0))))), some (.inl ah), some (.inl (s0 : Int)), some (.inl (k : Int)), some (.inl ((k : Int) + (1)))]) (st' := [.inr (.inr (.inl (some (22))))]) (h' := h25) rfl ?_
                refine wq_gr (p' := 100) rfl rfl (congrArg Prod.fst (ly_k C26.1 22 rfl)) rfl (ly_g C26.1 22 0 1 rfl) ?_
                refine wq_cv (p' := 103) (av_qc (.invokevirtual 47) 85 0 0 6) 1 cd_85 [] (1) 6 [some (.inr (.inr (.inl (some (1)))))] rfl rfl rfl pp_85 rfl rfl rfl (congrArg Prod.fst (ly_k C26.1 1 rfl)) rfl rfl rfl rfl ?_
                refine ct_85 C26 F27 (fun h37 C38 F39 => ?_)
                generalize q41 : fal t28 = t40 at C38
                have gfal : t40.2.2.2 ≠ -1 := by rw [← q41]; exact fal_ne
                have g42 := ct_wf C38
                show av_wp _ cd_35 103 [some (.inr (.inr (.inl (some (22))))), some (.inr (.inr (.inl (some (t0))))), some (.inl ah), some (.inl (s0 : Int)), some (.inl (k : Int)), some (.inl ((k : Int) + (1)))] [] h37 _
                have hX : rbA b lim ah s0 t r1 = (k, t40, r2) := by simp only [rbA, hx, if_pos (show k = s0 by omega), q41]
                rw [hX] at hq0 hq1
                have zr : ∀ j, 252 ≤ j → r2 j = 0 := fun j hj => (pp2 j (Or.inr hj)).trans (Z0 j hj)
                have ft := F39
                have gF := FB_tr F2 (FB_T ft)
                have gf : ∀ q k, q ≠ 1 → q ≠ 22 → hF h37 q k = hF h q k := fun q k h1 h2 => (ft.2.2.2.2.2.1 q k (by simp only [tF, nbeq h1, Bool.false_and])).trans (F2f q k h1 h2)
                have ga : ∀ a, a ≠ 23 → hA h37 a = hA h a := fun a ha => by
                  by_cases e25 : a = 25
                  · subst e25; exact (ct_d C38).trans (ct_d C).symm
                  · exact (ft.2.2.2.2.2.2 a ha e25).trans (F2a a ha)
                have gr : hR h37 = hR h := ft.2.2.2.1.trans F2r
                have gl : hF h37 1 1 = hF h 1 1 := (ft.2.2.2.2.2.1 1 1 rfl).trans F2l
                refine av_wp_seq 1 (pc' := 104) (lv' := [some (.inr (.inr (.inl (some (22))))), some (.inr (.inr (.inl (some (t0))))), some (.inl ah), some (.inl (s0 : Int)), some (.inl (k : Int)), some (.inl ((k : Int) + (1)))]) (st' := [.inr (.inr (.inl (some (22))))]) (h' := h37) rfl ?_
                refine wq_gr (p' := 107) rfl rfl (congrArg Prod.fst (ly_k C38.1 22 rfl)) rfl (ly_g C38.1 22 0 1 rfl) ?_
                refine wq_gi (p' := 110) rfl rfl (congrArg Prod.fst (ly_k C38.1 1 rfl)) rfl (ct_w C38) ?_
                refine av_wp_seq 1 (pc' := 111) (lv' := [some (.inr (.inr (.inl (some (22))))), some (.inr (.inr (.inl (some (t0))))), some (.inl ah), some (.inl (s0 : Int)), some (.inl (k : Int)), some (.inl ((k : Int) + (1)))]) (st' := [.inl (-1), .inl t40.2.2.2]) (h' := h37) rfl ?_
                refine wq_k2 (p' := 114) rfl rfl ⟨by omega, by omega⟩ ⟨by omega, by omega⟩ (fun c43 => ?_) (fun c44 => ?_)
                · have c43 : t40.2.2.2 ≠ (-1) := c43
                  refine av_wp_seq 1 (pc' := 131) (lv' := [some (.inr (.inr (.inl (some (22))))), some (.inr (.inr (.inl (some (t0))))), some (.inl ah), some (.inl (s0 : Int)), some (.inl (k : Int)), some (.inl ((k : Int) + (1)))]) (st' := [.inr (.inr (.inl none))]) (h' := h37) rfl ?_
                  refine av_wp_ret (v := some (.inr (.inr (.inl none)))) rfl rfl rfl ?_
                  exact hq0 (by omega) h37 C38 gF gf gl gr ga zr
                · have c44 : t40.2.2.2 = (-1) := c44
                  intro hg
                  have l122 : 121 < h37.1 := ly_lt hg C38.1 (by omega)
                  have ctal5 : ∀ h5 : av_H, AL h37 h5 2 (4 + 21 * k) → CT b lim t40 r2 d h5 := fun h5 a5 => CT_al hg C38 a5
                  revert hg
                  show av_wp none cd_35 114 [some (.inr (.inr (.inl (some (22))))), some (.inr (.inr (.inl (some (t0))))), some (.inl ah), some (.inl (s0 : Int)), some (.inl (k : Int)), some (.inl ((k : Int) + (1)))] [] h37 Q
                  refine av_wp_seq 3 (pc' := 119) (lv' := [some (.inr (.inr (.inl (some (22))))), some (.inr (.inr (.inl (some (t0))))), some (.inl ah), some (.inl (s0 : Int)), some (.inl (k : Int)), some (.inl ((k : Int) + (1)))]) (st' := [.inr (.inr (.inl (some 22))), .inr (.inr (.inl (some h37.1))), .inr (.inr (.inl (some h37.1)))]) (h' := (av_newO 1 4 h37)) rfl ?_
                  have kq : ∀ q, q < 122 → hK (av_newO 1 4 h37) q = hK h37 q := fun q hq => if_neg (by omega)
                  have gq : ∀ q f, q < 122 → hG (av_newO 1 4 h37) q f = hG h37 q f := fun q f hq => by
                    show av_u1 h37.2.2.2.2.2.1 h37.1 (fun _ => none) q f = _
                    rw [show av_u1 h37.2.2.2.2.2.1 h37.1 (fun _ => none) q = h37.2.2.2.2.2.1 q from if_neg (by omega)]
                  refine wq_gr (p' := 122) (v := some 23) rfl rfl (congrArg Prod.fst ((kq 22 (by omega)).trans (ly_k C38.1 22 rfl))) rfl ((gq 22 1 (by omega)).trans (ly_g C38.1 22 1 23 rfl)) ?_
                  refine av_wp_seq 1 (pc' := 124) (lv' := [some (.inr (.inr (.inl (some (22))))), some (.inr (.inr (.inl (some (t0))))), some (.inl ah), some (.inl (s0 : Int)), some (.inl (k : Int)), some (.inl ((k : Int) + (1)))]) (st' := [.inl (k : Int), .inr (.inr (.inl (some 23))), .inr (.inr (.inl (some h37.1))), .inr (.inr (.inl (some h37.1)))]) (h' := (av_newO 1 4 h37)) rfl ?_
                  refine wq_cv (p' := 127) (av_qc (.invokespecial 57) 27 2 1 1) 9 cd_27 [.inl (k : Int), .inr (.inr (.inl (some 23)))] (h37.1) 1 [some (.inr (.inr (.inl (some h37.1)))), some (.inr (.inr (.inl (some 23)))), some (.inl (k : Int)), none, none, none, none, none, none] rfl rfl rfl pp_27 rfl rfl rfl (congrArg Prod.fst (show hK (av_newO 1 4 h37) h37.1 = (1, 0) from if_pos rfl)) rfl rfl rfl rfl ?_
                  have vk := (pp3 (by omega)).2.1 V0
                  have dk := (pp3 (by omega)).2.2 D0
                  have ha23 : hA (av_newO 1 4 h37) 23 = r2 := (show hA (av_newO 1 4 h37) 23 = hA h37 23 from rfl).trans (ct_r C38)
                  refine ct_27 (n := 252) (s := k) (show hK (av_newO 1 4 h37) h37.1 = (1, 0) from if_pos rfl) (by show h37.1 ≠ h37.1 + 1; omega) (by show 23 ≠ h37.1 + 1; omega) ((kq 23 (by omega)).trans (ly_k C38.1 23 rfl)) pp1.2 (by omega) (by omega) (fun j hj => by rw [ha23]; have z := vk j (by omega); exact ⟨z.1, z.2.1, z.2.2.1⟩) _ rfl (fun f h5 f1 f2 N5 => ?_)
                  show av_wp _ cd_35 127 [some (.inr (.inr (.inl (some (22))))), some (.inr (.inr (.inl (some (t0))))), some (.inl ah), some (.inl (s0 : Int)), some (.inl (k : Int)), some (.inl ((k : Int) + (1)))] [.inr (.inr (.inl (some h37.1)))] h5 _
                  obtain ⟨x5, a5⟩ := nc_cx N5
                  rw [ha23] at f1 f2
                  have v5 : FV k f := by
                    have zf : ∀ j, 21 * k ≤ j → f j = 0 := fun j hj => by
                      rcases f2 j hj with h1 | h1
                      · exact h1
                      · rw [h1.2]; exact zr j (by omega)
                    refine ⟨pp1.2, fun j => ?_, fun q j hj => ?_, fun j hj => ?_⟩
                    · by_cases c : j < 21 * k
                      · rw [f1 j c]; exact ⟨(vk j (by omega)).1, (vk j (by omega)).2.1⟩
                      · rw [zf j (by omega)]; omega
                    · by_cases c : 21 * q + 15 + j < 21 * k
                      · rw [f1 _ c]; exact (vk _ (by omega)).2.2.1 (by omega) (by omega)
                      · rw [zf _ (by omega)]; omega
                    · by_cases c : j < 21 * k
                      · rw [f1 j c]; exact (vk j (by omega)).2.2.2 hj
                      · rw [zf j (by omega)]; omega
                  have d5 : SD k f := fun q hq h2 => by
                    rw [f1 _ (by omega)] at h2
                    rw [f1 _ (by omega)]
                    exact dk q hq h2
                  refine av_wp_seq 1 (pc' := 131) (lv' := [some (.inr (.inr (.inl (some (22))))), some (.inr (.inr (.inl (some (t0))))), some (.inl ah), some (.inl (s0 : Int)), some (.inl (k : Int)), some (.inl ((k : Int) + (1)))]) (st' := [.inr (.inr (.inl (some h37.1)))]) (h' := h5) rfl ?_
                  intro hg5
                  refine av_wp_ret (v := some (.inr (.inr (.inl (some h37.1))))) rfl rfl rfl ?_ hg5
                  exact hq1 (by omega) h5 h37 f C38 a5 (ctal5 h5 a5) gF gf gl gr ga zr x5 v5 d5 (by omega) f1 (by omega)
            · have c32 : ((k : Int) + (1)) ≤ (12) := c32
              exfalso; omega
  exact L (13 - s0) s0 t r1 h2 (by omega) (by omega) C2 (FT_rf h2) rfl
