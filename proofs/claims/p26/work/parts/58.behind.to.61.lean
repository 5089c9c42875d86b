section
/-! THE CLASS READS BEHIND A CASE, exactly -/
/-- the old case's cells ahead of the rest -/
def cpr (h : av_H) (c s : Nat) (r : Nat → Int) : Nat → Int := fun j => if j < 21 * s then hA h c j else r j
set_option maxRecDepth 100000 in
set_option maxHeartbeats 4000000 in
theorem ct_35 {h : av_H} {b r d : Nat → Int} {lim : Nat} {t : TT} (C : CT b lim t r d h) {t0 c0 s0 : Nat} {cb0 : Int} (o : CO h t0 c0 s0 cb0) (hw : ∀ j, j < 21 * s0 → j % 21 ≠ 20 → hA h c0 j ≤ 2000) (hsd : SD s0 (hA h c0)) (hz : ∀ j, 252 ≤ j → r j = 0) (ah : Int) (qa : 0 ≤ ah ∧ ah ≤ 16) {Q : Option av_V → av_H → Prop} (hq0 : (rbA b lim ah s0 t (cpr h c0 s0 r)).2.1.2.2.2 ≠ -1 → ∀ h', CT b lim (rbA b lim ah s0 t (cpr h c0 s0 r)).2.1 (rbA b lim ah s0 t (cpr h c0 s0 r)).2.2 d h' → FB h h' 0 0 → (∀ q k, q ≠ 1 → q ≠ 22 → hF h' q k = hF h q k) → hF h' 1 1 = hF h 1 1 → hR h' = hR h → (∀ a, a ≠ 23 → hA h' a = hA h a) → (∀ j, 252 ≤ j → (rbA b lim ah s0 t (cpr h c0 s0 r)).2.2 j = 0) → Q (some (.inr (.inr (.inl none)))) h') (hq1 : (rbA b lim ah s0 t (cpr h c0 s0 r)).2.1.2.2.2 = -1 → ∀ h' h4 f, CT b lim (rbA b lim ah s0 t (cpr h c0 s0 r)).2.1 (rbA b lim ah s0 t (cpr h c0 s0 r)).2.2 d h4 → AL h4 h' 2 (4 + 21 * (rbA b lim ah s0 t (cpr h c0 s0 r)).1) → CT b lim (rbA b lim ah s0 t (cpr h c0 s0 r)).2.1 (rbA b lim ah s0 t (cpr h c0 s0 r)).2.2 d h' → FB h h4 0 0 → (∀ q k, q ≠ 1 → q ≠ 22 → hF h4 q k = hF h q k) → hF h4 1 1 = hF h 1 1 → hR h4 = hR h → (∀ a, a ≠ 23 → hA h4 a = hA h a) → (∀ j, 252 ≤ j → (rbA b lim ah s0 t (cpr h c0 s0 r)).2.2 j = 0) → CX h' h4.1 (h4.1 + 1) (rbA b lim ah s0 t (cpr h c0 s0 r)).1 f → FV (rbA b lim ah s0 t (cpr h c0 s0 r)).1 f → SD (rbA b lim ah s0 t (cpr h c0 s0 r)).1 f → 1 ≤ (rbA b lim ah s0 t (cpr h c0 s0 r)).1 → (∀ j, j < 21 * (rbA b lim ah s0 t (cpr h c0 s0 r)).1 → f j = (rbA b lim ah s0 t (cpr h c0 s0 r)).2.2 j) → 122 ≤ h4.1 → Q (some (.inr (.inr (.inl (some h4.1))))) h') : av_wp none cd_35 0 [some (.inr (.inr (.inl (some (22))))), some (.inr (.inr (.inl (some t0)))), some (.inl ah), none, none, none] [] h Q := by
  have s12 := co_s12 o
  have kt := co_kt o
  have t22 : t0 ≠ 22 := fun z => by have a := kt; rw [z, C.1.1 22 rfl] at a; cases a
  refine av_wp_sqF ck_35 2 (pc' := 2) (lv' := [some (.inr (.inr (.inl (some (22))))), some (.inr (.inr (.inl (some t0)))), some (.inl ah), none, none, none]) (st' := [.inl ah, .inr (.inr (.inl (some (22))))]) (h' := h) rfl ?_
  refine wq_pi (p' := 5) (ck_35 _ _ rfl) rfl (congrArg Prod.fst (ly_k C.1 22 rfl)) rfl ?_
  refine av_wp_sqF ck_35 1 (pc' := 6) (lv' := [some (.inr (.inr (.inl (some (22))))), some (.inr (.inr (.inl (some t0)))), some (.inl ah), none, none, none]) (st' := [.inr (.inr (.inl (some t0)))]) (h' := hwF h 22 2 ah) rfl ?_
  refine wq_gi (p' := 9) (v := (s0 : Int)) rfl rfl (congrArg Prod.fst (show hK (hwF h 22 2 ah) t0 = (1, 0) from kt)) rfl ((show av_u2 h.2.2.2.2.1 22 2 ah t0 1 = _ by rw [av_u2_ne t22]).trans (co_s o)) ?_
  refine av_wp_sqF ck_35 1 (pc' := 11) (lv' := [some (.inr (.inr (.inl (some (22))))), some (.inr (.inr (.inl (some t0)))), some (.inl ah), none, none, none]) (st' := [.inl (12), .inl (s0 : Int)]) (h' := hwF h 22 2 ah) rfl ?_
  refine wq_mne (p' := 14) (ck_35 _ _ rfl) rfl rfl (fun _ _ => rfl) rfl ⟨by omega, by omega⟩ ⟨by omega, by omega⟩ ?_
  rw [if_neg (show ¬ (12 : Int) < (s0 : Int) by omega)]
  refine av_wp_sqF ck_35 4 (pc' := 19) (lv' := [some (.inr (.inr (.inl (some (22))))), some (.inr (.inr (.inl (some t0)))), some (.inl ah), some (.inl (s0 : Int)), some (.inl (s0 : Int)), none]) (st' := [.inr (.inr (.inl (some t0)))]) (h' := hwF h 22 2 ah) rfl ?_
  refine wq_gr (p' := 22) (v := some c0) (ck_35 _ _ rfl) rfl (congrArg Prod.fst (show hK (hwF h 22 2 ah) t0 = (1, 0) from kt)) rfl (show hG h t0 0 = some c0 from co_c o) ?_
  refine av_wp_sqF ck_35 2 (pc' := 24) (lv' := [some (.inr (.inr (.inl (some (22))))), some (.inr (.inr (.inl (some t0)))), some (.inl ah), some (.inl (s0 : Int)), some (.inl (s0 : Int)), none]) (st' := [.inr (.inr (.inl (some (22)))), .inl (0), .inr (.inr (.inl (some c0)))]) (h' := hwF h 22 2 ah) rfl ?_
  refine wq_gr (p' := 27) (v := some 23) (ck_35 _ _ rfl) rfl (congrArg Prod.fst (ly_k C.1 22 rfl)) rfl (ly_g C.1 22 1 23 rfl) ?_
  refine av_wp_sqF ck_35 4 (pc' := 32) (lv' := [some (.inr (.inr (.inl (some (22))))), some (.inr (.inr (.inl (some t0)))), some (.inl ah), some (.inl (s0 : Int)), some (.inl (s0 : Int)), none]) (st' := [.inl ((s0 : Int) * (21)), .inl (0), .inr (.inr (.inl (some 23))), .inl (0), .inr (.inr (.inl (some c0)))]) (h' := hwF h 22 2 ah) rfl ?_
  refine wq_ac (p' := 35) (nd := 252) (nq := 21 * s0) (ck_35 _ _ rfl) rfl rfl (fun _ _ => rfl) rfl (ly_k C.1 23 rfl) (show hK h c0 = (20, 21 * s0) from co_kc o) (by omega) (by omega) (by omega) (by omega) ?_
  have F2 : FB h (hcp (hwF h 22 2 ah) 23 (0 : Int).toNat (0 : Int).toNat ((s0 : Int) * (21)).toNat (hA (hwF h 22 2 ah) c0)) 0 0 := FB_tr (FB_wF (o := 22) (f := 2) rfl) (FB_A (fun q hq => by
    funext j
    unfold av_cpy
    rw [if_neg (fun z => by have z1 := z.1; subst z1; cases hq)]))
  have F2f : ∀ q k, q ≠ 1 → q ≠ 22 → hF (hcp (hwF h 22 2 ah) 23 (0 : Int).toNat (0 : Int).toNat ((s0 : Int) * (21)).toNat (hA (hwF h 22 2 ah) c0)) q k = hF h q k := fun q k _ h2 => congrFun (av_u2_ne h2) k
  have F2a : ∀ a, a ≠ 23 → hA (hcp (hwF h 22 2 ah) 23 (0 : Int).toNat (0 : Int).toNat ((s0 : Int) * (21)).toNat (hA (hwF h 22 2 ah) c0)) a = hA h a := fun a ha => by
    funext j
    show av_cpy h.2.2.2.1 23 _ _ _ _ a j = _
    unfold av_cpy
    rw [if_neg (fun z => ha z.1)]
  have e22 : ∀ k, hF (hcp (hwF h 22 2 ah) 23 (0 : Int).toNat (0 : Int).toNat ((s0 : Int) * (21)).toNat (hA (hwF h 22 2 ah) c0)) 1 k = hF h 1 k := fun k => by
    show av_u2 h.2.2.2.2.1 22 2 ah 1 k = _
    rw [av_u2_ne (show (1 : Nat) ≠ 22 by decide)]
  have F2l : hF (hcp (hwF h 22 2 ah) 23 (0 : Int).toNat (0 : Int).toNat ((s0 : Int) * (21)).toNat (hA (hwF h 22 2 ah) c0)) 1 1 = hF h 1 1 := e22 1
  have F2r : hR (hcp (hwF h 22 2 ah) 23 (0 : Int).toNat (0 : Int).toNat ((s0 : Int) * (21)).toNat (hA (hwF h 22 2 ah) c0)) = hR h := rfl
  have A2 : hF (hcp (hwF h 22 2 ah) 23 (0 : Int).toNat (0 : Int).toNat ((s0 : Int) * (21)).toNat (hA (hwF h 22 2 ah) c0)) 22 2 = ah := hF_self
  have C2 : CT b lim t (cpr h c0 s0 r) d (hcp (hwF h 22 2 ah) 23 (0 : Int).toNat (0 : Int).toNat ((s0 : Int) * (21)).toNat (hA (hwF h 22 2 ah) c0)) := by
    refine ⟨C.1, (F2a 2 (by decide)).trans C.2.1, C.2.2.1, ?_, ?_, ?_, ?_, ?_, ?_, (F2a 25 (by decide)).trans (ct_d C), ct_wf C, fun j => ?_, ct_dv C⟩
    · exact (e22 2).trans (ct_l C)
    · exact (e22 3).trans (ct_f C)
    · exact (e22 4).trans (ct_p C)
    · exact (e22 5).trans (ct_s C)
    · exact (e22 6).trans (ct_w C)
    · funext j
      show av_cpy h.2.2.2.1 23 _ _ _ _ 23 j = _
      unfold av_cpy cpr
      by_cases e : j < 21 * s0
      · rw [if_pos ⟨rfl, by omega, by omega⟩, if_pos e]
        show hA h c0 (0 + (j - 0)) = _
        rw [show 0 + (j - 0) = j by omega]
      · rw [if_neg (fun z => by have z1 := z.2.2; omega), if_neg e]
        exact congrFun (ct_r C) j
    · unfold cpr
      split
      · have := co_v o j
        omega
      · exact ct_rv C j
  have W0 : ∀ q : Nat, q < s0 → -1 ≤ cpr h c0 s0 r (q * 21 + 1) ∧ cpr h c0 s0 r (q * 21 + 1) ≤ 2000 := fun q hq => by
    have e : cpr h c0 s0 r (q * 21 + 1) = hA h c0 (q * 21 + 1) := if_pos (by omega)
    rw [e]
    exact ⟨(co_v o _).1, hw _ (by omega) (by omega)⟩
  have V0 : VA s0 (cpr h c0 s0 r) := fun j hj => by
    have e : cpr h c0 s0 r j = hA h c0 j := if_pos (by omega)
    rw [e]
    refine ⟨(co_v o j).1, (co_v o j).2, fun h1 h2 => ?_, hw j (by omega)⟩
    have h3 := o.2.2.2.2.2.2.2.2.2 (j / 21) (j % 21 - 15) (by omega)
    rw [show 21 * (j / 21) + 15 + (j % 21 - 15) = j by omega] at h3
    exact h3
  have D0 : SD s0 (cpr h c0 s0 r) := fun q hq h2 => by
    have e : cpr h c0 s0 r (q * 21) = hA h c0 (q * 21) := if_pos (by omega)
    have e3 : cpr h c0 s0 r (q * 21 + 3) = hA h c0 (q * 21 + 3) := if_pos (by omega)
    rw [e] at h2
    rw [e3]
    exact hsd q hq h2
  have Z0 : ∀ j, 252 ≤ j → cpr h c0 s0 r j = 0 := fun j hj => (if_neg (by omega)).trans (hz j hj)
  clear e22
  generalize hcp (hwF h 22 2 ah) 23 (0 : Int).toNat (0 : Int).toNat ((s0 : Int) * (21)).toNat (hA (hwF h 22 2 ah) c0) = h2 at F2 F2f F2l F2r F2a A2 C2 ⊢
  generalize cpr h c0 s0 r = r1 at C2 W0 V0 D0 Z0 hq0 hq1
  have pp := rbf_p (b := b) (lim := lim) (ah := ah) qa.2 (13 - s0) s0 t r1 s12 (fun _ => W0)
  have g0 := ct_wf C2
  refine av_wp_sqF ck_35 2 (pc' := 38) (lv' := [some (.inr (.inr (.inl (some (22))))), some (.inr (.inr (.inl (some (t0))))), some (.inl ah), some (.inl (s0 : Int)), some (.inl (s0 : Int)), some (.inl (s0 : Int))]) (st' := []) (h' := h2) rfl ?_
  have L : ∀ (n k : Nat) (t1 : TT) (r2 : Nat → Int) (h3 : av_H), n + k = 13 → k ≤ 12 → CT b lim t1 r2 d h3 → FT h2 h3 → rbf b lim ah n k t1 r2 = rbf b lim ah (13 - s0) s0 t r1 → av_wp none cd_35 38 [some (.inr (.inr (.inl (some (22))))), some (.inr (.inr (.inl (some (t0))))), some (.inl ah), some (.inl (s0 : Int)), some (.inl (k : Int)), some (.inl (k : Int))] [] h3 Q := by
    intro n
    induction n with
    | zero => intro k t1 r2 h3 e1 e2; exfalso; omega
    | succ n ih =>
      intro k t1 r2 h3 e1 e2 C1 F1 he
      have g1 := ct_wf C1
      refine av_wp_sqF ck_35 2 (pc' := 42) (lv' := [some (.inr (.inr (.inl (some (22))))), some (.inr (.inr (.inl (some (t0))))), some (.inl ah), some (.inl (s0 : Int)), some (.inl (k : Int)), some (.inl (k : Int))]) (st' := [.inl (12), .inl (k : Int)]) (h' := h3) rfl ?_
      refine wq_k2 (p' := 45) (ck_35 _ _ rfl) rfl ⟨by omega, by omega⟩ ⟨by omega, by omega⟩ (fun c1 => ?_) (fun c2 => ?_)
      · have c1 : (12) < (k : Int) := c1
        exfalso; omega
      · have c2 : (k : Int) ≤ (12) := c2
        refine av_wp_sqF ck_35 1 (pc' := 46) (lv' := [some (.inr (.inr (.inl (some (22))))), some (.inr (.inr (.inl (some (t0))))), some (.inl ah), some (.inl (s0 : Int)), some (.inl (k : Int)), some (.inl (k : Int))]) (st' := [.inr (.inr (.inl (some (22))))]) (h' := h3) rfl ?_
        refine wq_gr (p' := 49) (ck_35 _ _ rfl) rfl (congrArg Prod.fst (ly_k C1.1 22 rfl)) rfl (ly_g C1.1 22 0 1 rfl) ?_
        refine wq_cv (p' := 52) (av_qc (.invokevirtual 41) 84 0 0 6) 1 cd_84 [] (1) 6 [some (.inr (.inr (.inl (some (1)))))] (ck_35 _ _ rfl) rfl rfl pp_84 rfl rfl rfl (congrArg Prod.fst (ly_k C1.1 1 rfl)) rfl rfl rfl rfl ?_
        refine ct_84 C1 F1 (fun v3 p4 => ?_)
        show av_wp _ cd_35 52 [some (.inr (.inr (.inl (some (22))))), some (.inr (.inr (.inl (some (t0))))), some (.inl ah), some (.inl (s0 : Int)), some (.inl (k : Int)), some (.inl (k : Int))] [.inl v3] h3 _
        refine wq_k1 (p' := 55) (ck_35 _ _ rfl) rfl ⟨by omega, by omega⟩ (fun c5 => ?_) (fun c6 => ?_)
        · have c5 : v3 = (0) := c5
          have hx : rbf b lim ah (13 - s0) s0 t r1 = (k, t1, r2) := by rw [← he]; unfold rbf; rw [if_neg (by omega)]
          rw [hx] at pp
          have pp1 : s0 ≤ k ∧ k ≤ 12 := ⟨pp.1, pp.2.1⟩
          have pp2 : ∀ j, j < s0 * 21 ∨ 252 ≤ j → r2 j = r1 j := pp.2.2.1
          have pp3 : t1.2.2.2 = -1 → t.2.2.2 = -1 ∧ (VA s0 r1 → VA k r2) ∧ (SD s0 r1 → SD k r2) := pp.2.2.2
          refine av_wp_sqF ck_35 2 (pc' := 93) (lv' := [some (.inr (.inr (.inl (some (22))))), some (.inr (.inr (.inl (some (t0))))), some (.inl ah), some (.inl (s0 : Int)), some (.inl (k : Int)), some (.inl (k : Int))]) (st' := [.inl (s0 : Int), .inl (k : Int)]) (h' := h3) rfl ?_
          refine wq_k2 (p' := 96) (ck_35 _ _ rfl) rfl ⟨by omega, by omega⟩ ⟨by omega, by omega⟩ (fun c7 => ?_) (fun c8 => ?_)
          · have c7 : (k : Int) ≠ (s0 : Int) := c7
            have hX : rbA b lim ah s0 t r1 = (k, t1, r2) := by simp only [rbA, hx, if_neg (show ¬ k = s0 by omega)]
            rw [hX] at hq0 hq1
            have zr : ∀ j, 252 ≤ j → r2 j = 0 := fun j hj => (pp2 j (Or.inr hj)).trans (Z0 j hj)
            have ft := F1
            have gF := FB_tr F2 (FB_T ft)
            have gf : ∀ q k, q ≠ 1 → q ≠ 22 → hF h3 q k = hF h q k := fun q k h1 h2 => (ft.2.2.2.2.2.1 q k (by simp only [tF, nbeq h1, Bool.false_and])).trans (F2f q k h1 h2)
            have ga : ∀ a, a ≠ 23 → hA h3 a = hA h a := fun a ha => by
              by_cases e25 : a = 25
              · subst e25; exact (ct_d C1).trans (ct_d C).symm
              · exact (ft.2.2.2.2.2.2 a ha e25).trans (F2a a ha)
            have gr : hR h3 = hR h := ft.2.2.2.1.trans F2r
            have gl : hF h3 1 1 = hF h 1 1 := (ft.2.2.2.2.2.1 1 1 rfl).trans F2l
            refine av_wp_sqF ck_35 1 (pc' := 104) (lv' := [some (.inr (.inr (.inl (some (22))))), some (.inr (.inr (.inl (some (t0))))), some (.inl ah), some (.inl (s0 : Int)), some (.inl (k : Int)), some (.inl (k : Int))]) (st' := [.inr (.inr (.inl (some (22))))]) (h' := h3) rfl ?_
            refine wq_gr (p' := 107) (ck_35 _ _ rfl) rfl (congrArg Prod.fst (ly_k C1.1 22 rfl)) rfl (ly_g C1.1 22 0 1 rfl) ?_
            refine wq_gi (p' := 110) (ck_35 _ _ rfl) rfl (congrArg Prod.fst (ly_k C1.1 1 rfl)) rfl (ct_w C1) ?_
            refine av_wp_sqF ck_35 1 (pc' := 111) (lv' := [some (.inr (.inr (.inl (some (22))))), some (.inr (.inr (.inl (some (t0))))), some (.inl ah), some (.inl (s0 : Int)), some (.inl (k : Int)), some (.inl (k : Int))]) (st' := [.inl (-1), .inl t1.2.2.2]) (h' := h3) rfl ?_
            refine wq_k2 (p' := 114) (ck_35 _ _ rfl) rfl ⟨by omega, by omega⟩ ⟨by omega, by omega⟩ (fun c9 => ?_) (fun c10 => ?_)
            · have c9 : t1.2.2.2 ≠ (-1) := c9
              refine av_wp_sqF ck_35 1 (pc' := 131) (lv' := [some (.inr (.inr (.inl (some (22))))), some (.inr (.inr (.inl (some (t0))))), some (.inl ah), some (.inl (s0 : Int)), some (.inl (k : Int)), some (.inl (k : Int))]) (st' := [.inr (.inr (.inl none))]) (h' := h3) rfl ?_
              refine av_wp_ret (v := some (.inr (.inr (.inl none)))) rfl rfl rfl ?_
              exact hq0 (by omega) h3 C1 gF gf gl gr ga zr
            · have c10 : t1.2.2.2 = (-1) := c10
              intro hg
              have l122 : 121 < h3.1 := ly_lt hg C1.1 (by omega)
              have ctal5 : ∀ h5 : av_H, AL h3 h5 2 (4 + 21 * k) → CT b lim t1 r2 d h5 := fun h5 a5 => CT_al hg C1 a5
              revert hg
              show av_wp none cd_35 114 [some (.inr (.inr (.inl (some (22))))), some (.inr (.inr (.inl (some (t0))))), some (.inl ah), some (.inl (s0 : Int)), some (.inl (k : Int)), some (.inl (k : Int))] [] h3 Q
              refine av_wp_sqF ck_35 3 (pc' := 119) (lv' := [some (.inr (.inr (.inl (some (22))))), some (.inr (.inr (.inl (some (t0))))), some (.inl ah), some (.inl (s0 : Int)), some (.inl (k : Int)), some (.inl (k : Int))]) (st' := [.inr (.inr (.inl (some 22))), .inr (.inr (.inl (some h3.1))), .inr (.inr (.inl (some h3.1)))]) (h' := (av_newO 1 4 h3)) rfl ?_
              have kq : ∀ q, q < 122 → hK (av_newO 1 4 h3) q = hK h3 q := fun q hq => if_neg (by omega)
              have gq : ∀ q f, q < 122 → hG (av_newO 1 4 h3) q f = hG h3 q f := fun q f hq => by
                show av_u1 h3.2.2.2.2.2.1 h3.1 (fun _ => none) q f = _
                rw [show av_u1 h3.2.2.2.2.2.1 h3.1 (fun _ => none) q = h3.2.2.2.2.2.1 q from if_neg (by omega)]
              refine wq_gr (p' := 122) (v := some 23) (ck_35 _ _ rfl) rfl (congrArg Prod.fst ((kq 22 (by omega)).trans (ly_k C1.1 22 rfl))) rfl ((gq 22 1 (by omega)).trans (ly_g C1.1 22 1 23 rfl)) ?_
              refine av_wp_sqF ck_35 1 (pc' := 124) (lv' := [some (.inr (.inr (.inl (some (22))))), some (.inr (.inr (.inl (some (t0))))), some (.inl ah), some (.inl (s0 : Int)), some (.inl (k : Int)), some (.inl (k : Int))]) (st' := [.inl (k : Int), .inr (.inr (.inl (some 23))), .inr (.inr (.inl (some h3.1))), .inr (.inr (.inl (some h3.1)))]) (h' := (av_newO 1 4 h3)) rfl ?_
              refine wq_cv (p' := 127) (av_qc (.invokespecial 57) 27 2 1 1) 9 cd_27 [.inl (k : Int), .inr (.inr (.inl (some 23)))] (h3.1) 1 [some (.inr (.inr (.inl (some h3.1)))), some (.inr (.inr (.inl (some 23)))), some (.inl (k : Int)), none, none, none, none, none, none] (ck_35 _ _ rfl) rfl rfl pp_27 rfl rfl rfl (congrArg Prod.fst (show hK (av_newO 1 4 h3) h3.1 = (1, 0) from if_pos rfl)) rfl rfl rfl rfl ?_
              have vk := (pp3 (by omega)).2.1 V0
              have dk := (pp3 (by omega)).2.2 D0
              have ha23 : hA (av_newO 1 4 h3) 23 = r2 := (show hA (av_newO 1 4 h3) 23 = hA h3 23 from rfl).trans (ct_r C1)
              refine ct_27 (n := 252) (s := k) (show hK (av_newO 1 4 h3) h3.1 = (1, 0) from if_pos rfl) (by show h3.1 ≠ h3.1 + 1; omega) (by show 23 ≠ h3.1 + 1; omega) ((kq 23 (by omega)).trans (ly_k C1.1 23 rfl)) pp1.2 (by omega) (by omega) (fun j hj => by rw [ha23]; have z := vk j (by omega); exact ⟨z.1, z.2.1, z.2.2.1⟩) _ rfl (fun f h5 f1 f2 N5 => ?_)
              show av_wp _ cd_35 127 [some (.inr (.inr (.inl (some (22))))), some (.inr (.inr (.inl (some (t0))))), some (.inl ah), some (.inl (s0 : Int)), some (.inl (k : Int)), some (.inl (k : Int))] [.inr (.inr (.inl (some h3.1)))] h5 _
              obtain ⟨x5, a5⟩ := nc_cx N5
              rw [ha23] at f1 f2
              have v5 : FV k f := by
                have zf : ∀ j, 21 * k ≤ j → f j = 0 := fun j hj => by
                  rcases f2 j hj with h1 | h1
                  · exact h1
                  · rw [h1.2]; exact zr j (by omega)
                refine ⟨pp1.2, fun j => ?_, fun q j hj => ?_, fun j hj => ?_⟩
                · by_cases c : j < 21 * k
                  · rw [f1 j c]; exact ⟨(vk j (by omega)).1, (vk j (by omega)).2.1⟩
                  · rw [zf j (by omega)]; omega
                · by_cases c : 21 * q + 15 + j < 21 * k
                  · rw [f1 _ c]; exact (vk _ (by omega)).2.2.1 (by omega) (by omega)
                  · rw [zf _ (by omega)]; omega
                · by_cases c : j < 21 * k
                  · rw [f1 j c]; exact (vk j (by omega)).2.2.2 hj
                  · rw [zf j (by omega)]; omega
              have d5 : SD k f := fun q hq h2 => by
                rw [f1 _ (by omega)] at h2
                rw [f1 _ (by omega)]
                exact dk q hq h2
              refine av_wp_sqF ck_35 1 (pc' := 131) (lv' := [some (.inr (.inr (.inl (some (22))))), some (.inr (.inr (.inl (some (t0))))), some (.inl ah), some (.inl (s0 : Int)), some (.inl (k : Int)), some (.inl (k : Int))]) (st' := [.inr (.inr (.inl (some h3.1)))]) (h' := h5) rfl ?_
              intro hg5
              refine av_wp_ret (v := some (.inr (.inr (.inl (some h3.1))))) rfl rfl rfl ?_ hg5
              exact hq1 (by omega) h5 h3 f C1 a5 (ctal5 h5 a5) gF gf gl gr ga zr x5 v5 d5 (by omega) f1 (by omega)
          · have c8 : (k : Int) = (s0 : Int) := c8
            refine av_wp_sqF ck_35 1 (pc' := 97) (lv' := [some (.inr (.inr (.inl (some (22))))), some (.inr (.inr (.inl (some (t0))))), some (.inl ah), some (.inl (s0 : Int)), some (.inl (k : Int)), some (.inl (k : Int))]) (st' := [.inr (.inr (.inl (some (22))))]) (h' := h3) rfl ?_
            refine wq_gr (p' := 100) (ck_35 _ _ rfl) rfl (congrArg Prod.fst (ly_k C1.1 22 rfl)) rfl (ly_g C1.1 22 0 1 rfl) ?_
            refine wq_cv (p' := 103) (av_qc (.invokevirtual 47) 85 0 0 6) 1 cd_85 [] (1) 6 [some (.inr (.inr (.inl (some (1)))))] (ck_35 _ _ rfl) rfl rfl pp_85 rfl rfl rfl (congrArg Prod.fst (ly_k C1.1 1 rfl)) rfl rfl rfl rfl ?_
            refine ct_85 C1 F1 (fun h11 C12 F13 => ?_)
            generalize q15 : fal t1 = t14 at C12
            have gfal : t14.2.2.2 ≠ -1 := by rw [← q15]; exact fal_ne
            have g16 := ct_wf C12
            show av_wp _ cd_35 103 [some (.inr (.inr (.inl (some (22))))), some (.inr (.inr (.inl (some (t0))))), some (.inl ah), some (.inl (s0 : Int)), some (.inl (k : Int)), some (.inl (k : Int))] [] h11 _
            have hX : rbA b lim ah s0 t r1 = (k, t14, r2) := by simp only [rbA, hx, if_pos (show k = s0 by omega), q15]
            rw [hX] at hq0 hq1
            have zr : ∀ j, 252 ≤ j → r2 j = 0 := fun j hj => (pp2 j (Or.inr hj)).trans (Z0 j hj)
            have ft := F13
            have gF := FB_tr F2 (FB_T ft)
            have gf : ∀ q k, q ≠ 1 → q ≠ 22 → hF h11 q k = hF h q k := fun q k h1 h2 => (ft.2.2.2.2.2.1 q k (by simp only [tF, nbeq h1, Bool.false_and])).trans (F2f q k h1 h2)
            have ga : ∀ a, a ≠ 23 → hA h11 a = hA h a := fun a ha => by
              by_cases e25 : a = 25
              · subst e25; exact (ct_d C12).trans (ct_d C).symm
              · exact (ft.2.2.2.2.2.2 a ha e25).trans (F2a a ha)
            have gr : hR h11 = hR h := ft.2.2.2.1.trans F2r
            have gl : hF h11 1 1 = hF h 1 1 := (ft.2.2.2.2.2.1 1 1 rfl).trans F2l
            refine av_wp_sqF ck_35 1 (pc' := 104) (lv' := [some (.inr (.inr (.inl (some (22))))), some (.inr (.inr (.inl (some (t0))))), some (.inl ah), some (.inl (s0 : Int)), some (.inl (k : Int)), some (.inl (k : Int))]) (st' := [.inr (.inr (.inl (some (22))))]) (h' := h11) rfl ?_
            refine wq_gr (p' := 107) (ck_35 _ _ rfl) rfl (congrArg Prod.fst (ly_k C12.1 22 rfl)) rfl (ly_g C12.1 22 0 1 rfl) ?_
            refine wq_gi (p' := 110) (ck_35 _ _ rfl) rfl (congrArg Prod.fst (ly_k C12.1 1 rfl)) rfl (ct_w C12) ?_
            refine av_wp_sqF ck_35 1 (pc' := 111) (lv' := [some (.inr (.inr (.inl (some (22))))), some (.inr (.inr (.inl (some (t0))))), some (.inl ah), some (.inl (s0 : Int)), some (.inl (k : Int)), some (.inl (k : Int))]) (st' := [.inl (-1), .inl t14.2.2.2]) (h' := h11) rfl ?_
            refine wq_k2 (p' := 114) (ck_35 _ _ rfl) rfl ⟨by omega, by omega⟩ ⟨by omega, by omega⟩ (fun c17 => ?_) (fun c18 => ?_)
            · have c17 : t14.2.2.2 ≠ (-1) := c17
              refine av_wp_sqF ck_35 1 (pc' := 131) (lv' := [some (.inr (.inr (.inl (some (22))))), some (.inr (.inr (.inl (some (t0))))), some (.inl ah), some (.inl (s0 : Int)), some (.inl (k : Int)), some (.inl (k : Int))]) (st' := [.inr (.inr (.inl none))]) (h' := h11) rfl ?_
              refine av_wp_ret (v := some (.inr (.inr (.inl none)))) rfl rfl rfl ?_
              exact hq0 (by omega) h11 C12 gF gf gl gr ga zr
            · have c18 : t14.2.2.2 = (-1) := c18
              intro hg
              have l122 : 121 < h11.1 := ly_lt hg C12.1 (by omega)
              have ctal5 : ∀ h5 : av_H, AL h11 h5 2 (4 + 21 * k) → CT b lim t14 r2 d h5 := fun h5 a5 => CT_al hg C12 a5
              revert hg
              show av_wp none cd_35 114 [some (.inr (.inr (.inl (some (22))))), some (.inr (.inr (.inl (some (t0))))), some (.inl ah), some (.inl (s0 : Int)), some (.inl (k : Int)), some (.inl (k : Int))] [] h11 Q
              refine av_wp_sqF ck_35 3 (pc' := 119) (lv' := [some (.inr (.inr (.inl (some (22))))), some (.inr (.inr (.inl (some (t0))))), some (.inl ah), some (.inl (s0 : Int)), some (.inl (k : Int)), some (.inl (k : Int))]) (st' := [.inr (.inr (.inl (some 22))), .inr (.inr (.inl (some h11.1))), .inr (.inr (.inl (some h11.1)))]) (h' := (av_newO 1 4 h11)) rfl ?_
              have kq : ∀ q, q < 122 → hK (av_newO 1 4 h11) q = hK h11 q := fun q hq => if_neg (by omega)
              have gq : ∀ q f, q < 122 → hG (av_newO 1 4 h11) q f = hG h11 q f := fun q f hq => by
                show av_u1 h11.2.2.2.2.2.1 h11.1 (fun _ => none) q f = _
                rw [show av_u1 h11.2.2.2.2.2.1 h11.1 (fun _ => none) q = h11.2.2.2.2.2.1 q from if_neg (by omega)]
              refine wq_gr (p' := 122) (v := some 23) (ck_35 _ _ rfl) rfl (congrArg Prod.fst ((kq 22 (by omega)).trans (ly_k C12.1 22 rfl))) rfl ((gq 22 1 (by omega)).trans (ly_g C12.1 22 1 23 rfl)) ?_
              refine av_wp_sqF ck_35 1 (pc' := 124) (lv' := [some (.inr (.inr (.inl (some (22))))), some (.inr (.inr (.inl (some (t0))))), some (.inl ah), some (.inl (s0 : Int)), some (.inl (k : Int)), some (.inl (k : Int))]) (st' := [.inl (k : Int), .inr (.inr (.inl (some 23))), .inr (.inr (.inl (some h11.1))), .inr (.inr (.inl (some h11.1)))]) (h' := (av_newO 1 4 h11)) rfl ?_
              refine wq_cv (p' := 127) (av_qc (.invokespecial 57) 27 2 1 1) 9 cd_27 [.inl (k : Int), .inr (.inr (.inl (some 23)))] (h11.1) 1 [some (.inr (.inr (.inl (some h11.1)))), some (.inr (.inr (.inl (some 23)))), some (.inl (k : Int)), none, none, none, none, none, none] (ck_35 _ _ rfl) rfl rfl pp_27 rfl rfl rfl (congrArg Prod.fst (show hK (av_newO 1 4 h11) h11.1 = (1, 0) from if_pos rfl)) rfl rfl rfl rfl ?_
              have vk := (pp3 (by omega)).2.1 V0
              have dk := (pp3 (by omega)).2.2 D0
              have ha23 : hA (av_newO 1 4 h11) 23 = r2 := (show hA (av_newO 1 4 h11) 23 = hA h11 23 from rfl).trans (ct_r C12)
              refine ct_27 (n := 252) (s := k) (show hK (av_newO 1 4 h11) h11.1 = (1, 0) from if_pos rfl) (by show h11.1 ≠ h11.1 + 1; omega) (by show 23 ≠ h11.1 + 1; omega) ((kq 23 (by omega)).trans (ly_k C12.1 23 rfl)) pp1.2 (by omega) (by omega) (fun j hj => by rw [ha23]; have z := vk j (by omega); exact ⟨z.1, z.2.1, z.2.2.1⟩) _ rfl (fun f h5 f1 f2 N5 => ?_)
              show av_wp _ cd_35 127 [some (.inr (.inr (.inl (some (22))))), some (.inr (.inr (.inl (some (t0))))), some (.inl ah), some (.inl (s0 : Int)), some (.inl (k : Int)), some (.inl (k : Int))] [.inr (.inr (.inl (some h11.1)))] h5 _
              obtain ⟨x5, a5⟩ := nc_cx N5
              rw [ha23] at f1 f2
              have v5 : FV k f := by
                have zf : ∀ j, 21 * k ≤ j → f j = 0 := fun j hj => by
                  rcases f2 j hj with h1 | h1
                  · exact h1
                  · rw [h1.2]; exact zr j (by omega)
                refine ⟨pp1.2, fun j => ?_, fun q j hj => ?_, fun j hj => ?_⟩
                · by_cases c : j < 21 * k
                  · rw [f1 j c]; exact ⟨(vk j (by omega)).1, (vk j (by omega)).2.1⟩
                  · rw [zf j (by omega)]; omega
                · by_cases c : 21 * q + 15 + j < 21 * k
                  · rw [f1 _ c]; exact (vk _ (by omega)).2.2.1 (by omega) (by omega)
                  · rw [zf _ (by omega)]; omega
                · by_cases c : j < 21 * k
                  · rw [f1 j c]; exact (vk j (by omega)).2.2.2 hj
                  · rw [zf j (by omega)]; omega
              have d5 : SD k f := fun q hq h2 => by
                rw [f1 _ (by omega)] at h2
                rw [f1 _ (by omega)]
                exact dk q hq h2
              refine av_wp_sqF ck_35 1 (pc' := 131) (lv' := [some (.inr (.inr (.inl (some (22))))), some (.inr (.inr (.inl (some (t0))))), some (.inl ah), some (.inl (s0 : Int)), some (.inl (k : Int)), some (.inl (k : Int))]) (st' := [.inr (.inr (.inl (some h11.1)))]) (h' := h5) rfl ?_
              intro hg5
              refine av_wp_ret (v := some (.inr (.inr (.inl (some h11.1))))) rfl rfl rfl ?_ hg5
              exact hq1 (by omega) h5 h11 f C12 a5 (ctal5 h5 a5) gF gf gl gr ga zr x5 v5 d5 (by omega) f1 (by omega)
        · have c6 : v3 ≠ (0) := c6
          refine av_wp_sqF ck_35 2 (pc' := 59) (lv' := [some (.inr (.inr (.inl (some (22))))), some (.inr (.inr (.inl (some (t0))))), some (.inl ah), some (.inl (s0 : Int)), some (.inl (k : Int)), some (.inl (k : Int))]) (st' := [.inl (12), .inl (k : Int)]) (h' := h3) rfl ?_
          refine wq_k2 (p' := 62) (ck_35 _ _ rfl) rfl ⟨by omega, by omega⟩ ⟨by omega, by omega⟩ (fun c19 => ?_) (fun c20 => ?_)
          · have c19 : (k : Int) ≠ (12) := c19
            refine av_wp_sqF ck_35 2 (pc' := 75) (lv' := [some (.inr (.inr (.inl (some (22))))), some (.inr (.inr (.inl (some (t0))))), some (.inl ah), some (.inl (s0 : Int)), some (.inl (k : Int)), some (.inl (k : Int))]) (st' := [.inl (k : Int), .inr (.inr (.inl (some (22))))]) (h' := h3) rfl ?_
            refine wq_cv (p' := 78) (av_qc (.invokevirtual 50) 36 1 0 2) 5 cd_36 [.inl (k : Int)] (22) 2 [some (.inr (.inr (.inl (some (22))))), some (.inl (k : Int)), none, none, none] (ck_35 _ _ rfl) rfl rfl pp_36 rfl rfl rfl (congrArg Prod.fst (ly_k C1.1 22 rfl)) rfl rfl rfl rfl ?_
            refine ct_36 C1 F1 A2 (by omega) _ k rfl (by omega) (fun h21 C22 F23 => ?_)
            have g24 := ct_wf C22
            show av_wp _ cd_35 78 [some (.inr (.inr (.inl (some (22))))), some (.inr (.inr (.inl (some (t0))))), some (.inl ah), some (.inl (s0 : Int)), some (.inl (k : Int)), some (.inl (k : Int))] [] h21 _
            refine av_wp_sqF ck_35 6 (pc' := 38) (lv' := [some (.inr (.inr (.inl (some (22))))), some (.inr (.inr (.inl (some (t0))))), some (.inl ah), some (.inl (s0 : Int)), some (.inl ((k : Int) + (1))), some (.inl ((k : Int) + (1)))]) (st' := []) (h' := h21) rfl ?_
            have he2 : rbf b lim ah n (k + 1) (rsy b lim k ah t1 r2).1 (rsy b lim k ah t1 r2).2 = rbf b lim ah (13 - s0) s0 t r1 := by
              rw [← he]
              conv => rhs; unfold rbf
              rw [if_pos (by omega), if_neg (by omega)]
            exact ih (k + 1) _ _ h21 (by omega) (by omega) C22 F23 he2
          · have c20 : (k : Int) = (12) := c20
            refine av_wp_sqF ck_35 1 (pc' := 63) (lv' := [some (.inr (.inr (.inl (some (22))))), some (.inr (.inr (.inl (some (t0))))), some (.inl ah), some (.inl (s0 : Int)), some (.inl (k : Int)), some (.inl (k : Int))]) (st' := [.inr (.inr (.inl (some (22))))]) (h' := h3) rfl ?_
            refine wq_gr (p' := 66) (ck_35 _ _ rfl) rfl (congrArg Prod.fst (ly_k C1.1 22 rfl)) rfl (ly_g C1.1 22 0 1 rfl) ?_
            refine wq_cv (p' := 69) (av_qc (.invokevirtual 47) 85 0 0 6) 1 cd_85 [] (1) 6 [some (.inr (.inr (.inl (some (1)))))] (ck_35 _ _ rfl) rfl rfl pp_85 rfl rfl rfl (congrArg Prod.fst (ly_k C1.1 1 rfl)) rfl rfl rfl rfl ?_
            refine ct_85 C1 F1 (fun h25 C26 F27 => ?_)
            generalize q29 : fal t1 = t28 at C26
            have gfal : t28.2.2.2 ≠ -1 := by rw [← q29]; exact fal_ne
            have g30 := ct_wf C26
            show av_wp _ cd_35 69 [some (.inr (.inr (.inl (some (22))))), some (.inr (.inr (.inl (some (t0))))), some (.inl ah), some (.inl (s0 : Int)), some (.inl (k : Int)), some (.inl (k : Int))] [] h25 _
            refine av_wp_sqF ck_35 3 (pc' := 38) (lv' := [some (.inr (.inr (.inl (some (22))))), some (.inr (.inr (.inl (some (t0))))), some (.inl ah), some (.inl (s0 : Int)), some (.inl (k : Int)), some (.inl ((k : Int) + (1)))]) (st' := []) (h' := h25) rfl ?_
            refine av_wp_sqF ck_35 2 (pc' := 42) (lv' := [some (.inr (.inr (.inl (some (22))))), some (.inr (.inr (.inl (some (t0))))), some (.inl ah), some (.inl (s0 : Int)), some (.inl (k : Int)), some (.inl ((k : Int) + (1)))]) (st' := [.inl (12), .inl ((k : Int) + (1))]) (h' := h25) rfl ?_
            refine wq_k2 (p' := 45) (ck_35 _ _ rfl) rfl ⟨by omega, by omega⟩ ⟨by omega, by omega⟩ (fun c31 => ?_) (fun c32 => ?_)
            · have c31 : (12) < ((k : Int) + (1)) := c31
              have hx : rbf b lim ah (13 - s0) s0 t r1 = (k, t28, r2) := by rw [← he]; unfold rbf; rw [if_pos (by omega), if_pos (by omega), q29]
              rw [hx] at pp
              have pp1 : s0 ≤ k ∧ k ≤ 12 := ⟨pp.1, pp.2.1⟩
              have pp2 : ∀ j, j < s0 * 21 ∨ 252 ≤ j → r2 j = r1 j := pp.2.2.1
              have pp3 : t28.2.2.2 = -1 → t.2.2.2 = -1 ∧ (VA s0 r1 → VA k r2) ∧ (SD s0 r1 → SD k r2) := pp.2.2.2
              refine av_wp_sqF ck_35 2 (pc' := 93) (lv' := [some (.inr (.inr (.inl (some (22))))), some (.inr (.inr (.inl (some (t0))))), some (.inl ah), some (.inl (s0 : Int)), some (.inl (k : Int)), some (.inl ((k : Int) + (1)))]) (st' := [.inl (s0 : Int), .inl (k : Int)]) (h' := h25) rfl ?_
              refine wq_k2 (p' := 96) (ck_35 _ _ rfl) rfl ⟨by omega, by omega⟩ ⟨by omega, by omega⟩ (fun c33 => ?_) (fun c34 => ?_)
              · have c33 : (k : Int) ≠ (s0 : Int) := c33
                have hX : rbA b lim ah s0 t r1 = (k, t28, r2) := by simp only [rbA, hx, if_neg (show ¬ k = s0 by omega)]
                rw [hX] at hq0 hq1
                have zr : ∀ j, 252 ≤ j → r2 j = 0 := fun j hj => (pp2 j (Or.inr hj)).trans (Z0 j hj)
                have ft := F27
                have gF := FB_tr F2 (FB_T ft)
                have gf : ∀ q k, q ≠ 1 → q ≠ 22 → hF h25 q k = hF h q k := fun q k h1 h2 => (ft.2.2.2.2.2.1 q k (by simp only [tF, nbeq h1, Bool.false_and])).trans (F2f q k h1 h2)
                have ga : ∀ a, a ≠ 23 → hA h25 a = hA h a := fun a ha => by
                  by_cases e25 : a = 25
                  · subst e25; exact (ct_d C26).trans (ct_d C).symm
                  · exact (ft.2.2.2.2.2.2 a ha e25).trans (F2a a ha)
                have gr : hR h25 = hR h := ft.2.2.2.1.trans F2r
                have gl : hF h25 1 1 = hF h 1 1 := (ft.2.2.2.2.2.1 1 1 rfl).trans F2l
                refine av_wp_sqF ck_35 1 (pc' := 104) (lv' := [some (.inr (.inr (.inl (some (22))))), some (.inr (.inr (.inl (some (t0))))), some (.inl ah), some (.inl (s0 : Int)), some (.inl (k : Int)), some (.inl ((k : Int) + (1)))]) (st' := [.inr (.inr (.inl (some (22))))]) (h' := h25) rfl ?_
                refine wq_gr (p' := 107) (ck_35 _ _ rfl) rfl (congrArg Prod.fst (ly_k C26.1 22 rfl)) rfl (ly_g C26.1 22 0 1 rfl) ?_
                refine wq_gi (p' := 110) (ck_35 _ _ rfl) rfl (congrArg Prod.fst (ly_k C26.1 1 rfl)) rfl (ct_w C26) ?_
                refine av_wp_sqF ck_35 1 (pc' := 111) (lv' := [some (.inr (.inr (.inl (some (22))))), some (.inr (.inr (.inl (some (t0))))), some (.inl ah), some (.inl (s0 : Int)), some (.inl (k : Int)), some (.inl ((k : Int) + (1)))]) (st' := [.inl (-1), .inl t28.2.2.2]) (h' := h25) rfl ?_
                refine wq_k2 (p' := 114) (ck_35 _ _ rfl) rfl ⟨by omega, by omega⟩ ⟨by omega, by omega⟩ (fun c35 => ?_) (fun c36 => ?_)
                · have c35 : t28.2.2.2 ≠ (-1) := c35
                  refine av_wp_sqF ck_35 1 (pc' := 131) (lv' := [some (.inr (.inr (.inl (some (22))))), some (.inr (.inr (.inl (some (t0))))), some (.inl ah), some (.inl (s0 : Int)), some (.inl (k : Int)), some (.inl ((k : Int) + (1)))]) (st' := [.inr (.inr (.inl none))]) (h' := h25) rfl ?_
                  refine av_wp_ret (v := some (.inr (.inr (.inl none)))) rfl rfl rfl ?_
                  exact hq0 (by omega) h25 C26 gF gf gl gr ga zr
                · have c36 : t28.2.2.2 = (-1) := c36
                  intro hg
                  have l122 : 121 < h25.1 := ly_lt hg C26.1 (by omega)
                  have ctal5 : ∀ h5 : av_H, AL h25 h5 2 (4 + 21 * k) → CT b lim t28 r2 d h5 := fun h5 a5 => CT_al hg C26 a5
                  revert hg
                  show av_wp none cd_35 114 [some (.inr (.inr (.inl (some (22))))), some (.inr (.inr (.inl (some (t0))))), some (.inl ah), some (.inl (s0 : Int)), some (.inl (k : Int)), some (.inl ((k : Int) + (1)))] [] h25 Q
                  refine av_wp_sqF ck_35 3 (pc' := 119) (lv' := [some (.inr (.inr (.inl (some (22))))), some (.inr (.inr (.inl (some (t0))))), some (.inl ah), some (.inl (s0 : Int)), some (.inl (k : Int)), some (.inl ((k : Int) + (1)))]) (st' := [.inr (.inr (.inl (some 22))), .inr (.inr (.inl (some h25.1))), .inr (.inr (.inl (some h25.1)))]) (h' := (av_newO 1 4 h25)) rfl ?_
                  have kq : ∀ q, q < 122 → hK (av_newO 1 4 h25) q = hK h25 q := fun q hq => if_neg (by omega)
                  have gq : ∀ q f, q < 122 → hG (av_newO 1 4 h25) q f = hG h25 q f := fun q f hq => by
                    show av_u1 h25.2.2.2.2.2.1 h25.1 (fun _ => none) q f = _
                    rw [show av_u1 h25.2.2.2.2.2.1 h25.1 (fun _ => none) q = h25.2.2.2.2.2.1 q from if_neg (by omega)]
                  refine wq_gr (p' := 122) (v := some 23) (ck_35 _ _ rfl) rfl (congrArg Prod.fst ((kq 22 (by omega)).trans (ly_k C26.1 22 rfl))) rfl ((gq 22 1 (by omega)).trans (ly_g C26.1 22 1 23 rfl)) ?_
                  refine av_wp_sqF ck_35 1 (pc' := 124) (lv' := [some (.inr (.inr (.inl (some (22))))), some (.inr (.inr (.inl (some (t0))))), some (.inl ah), some (.inl (s0 : Int)), some (.inl (k : Int)), some (.inl ((k : Int) + (1)))]) (st' := [.inl (k : Int), .inr (.inr (.inl (some 23))), .inr (.inr (.inl (some h25.1))), .inr (.inr (.inl (some h25.1)))]) (h' := (av_newO 1 4 h25)) rfl ?_
                  refine wq_cv (p' := 127) (av_qc (.invokespecial 57) 27 2 1 1) 9 cd_27 [.inl (k : Int), .inr (.inr (.inl (some 23)))] (h25.1) 1 [some (.inr (.inr (.inl (some h25.1)))), some (.inr (.inr (.inl (some 23)))), some (.inl (k : Int)), none, none, none, none, none, none] (ck_35 _ _ rfl) rfl rfl pp_27 rfl rfl rfl (congrArg Prod.fst (show hK (av_newO 1 4 h25) h25.1 = (1, 0) from if_pos rfl)) rfl rfl rfl rfl ?_
                  have vk := (pp3 (by omega)).2.1 V0
                  have dk := (pp3 (by omega)).2.2 D0
                  have ha23 : hA (av_newO 1 4 h25) 23 = r2 := (show hA (av_newO 1 4 h25) 23 = hA h25 23 from rfl).trans (ct_r C26)
                  refine ct_27 (n := 252) (s := k) (show hK (av_newO 1 4 h25) h25.1 = (1, 0) from if_pos rfl) (by show h25.1 ≠ h25.1 + 1; omega) (by show 23 ≠ h25.1 + 1; omega) ((kq 23 (by omega)).trans (ly_k C26.1 23 rfl)) pp1.2 (by omega) (by omega) (fun j hj => by rw [ha23]; have z := vk j (by omega); exact ⟨z.1, z.2.1, z.2.2.1⟩) _ rfl (fun f h5 f1 f2 N5 => ?_)
                  show av_wp _ cd_35 127 [some (.inr (.inr (.inl (some (22))))), some (.inr (.inr (.inl (some (t0))))), some (.inl ah), some (.inl (s0 : Int)), some (.inl (k : Int)), some (.inl ((k : Int) + (1)))] [.inr (.inr (.inl (some h25.1)))] h5 _
                  obtain ⟨x5, a5⟩ := nc_cx N5
                  rw [ha23] at f1 f2
                  have v5 : FV k f := by
                    have zf : ∀ j, 21 * k ≤ j → f j = 0 := fun j hj => by
                      rcases f2 j hj with h1 | h1
                      · exact h1
                      · rw [h1.2]; exact zr j (by omega)
                    refine ⟨pp1.2, fun j => ?_, fun q j hj => ?_, fun j hj => ?_⟩
                    · by_cases c : j < 21 * k
                      · rw [f1 j c]; exact ⟨(vk j (by omega)).1, (vk j (by omega)).2.1⟩
                      · rw [zf j (by omega)]; omega
                    · by_cases c : 21 * q + 15 + j < 21 * k
                      · rw [f1 _ c]; exact (vk _ (by omega)).2.2.1 (by omega) (by omega)
                      · rw [zf _ (by omega)]; omega
                    · by_cases c : j < 21 * k
                      · rw [f1 j c]; exact (vk j (by omega)).2.2.2 hj
                      · rw [zf j (by omega)]; omega
                  have d5 : SD k f := fun q hq h2 => by
                    rw [f1 _ (by omega)] at h2
                    rw [f1 _ (by omega)]
                    exact dk q hq h2
                  refine av_wp_sqF ck_35 1 (pc' := 131) (lv' := [some (.inr (.inr (.inl (some (22))))), some (.inr (.inr (.inl (some (t0))))), some (.inl ah), some (.inl (s0 : Int)), some (.inl (k : Int)), some (.inl ((k : Int) + (1)))]) (st' := [.inr (.inr (.inl (some h25.1)))]) (h' := h5) rfl ?_
                  intro hg5
                  refine av_wp_ret (v := some (.inr (.inr (.inl (some h25.1))))) rfl rfl rfl ?_ hg5
                  exact hq1 (by omega) h5 h25 f C26 a5 (ctal5 h5 a5) gF gf gl gr ga zr x5 v5 d5 (by omega) f1 (by omega)
              · have c34 : (k : Int) = (s0 : Int) := c34
                refine av_wp_sqF ck_35 1 (pc' := 97) (lv' := [some (.inr (.inr (.inl (some (22))))), some (.inr (.inr (.inl (some (t0))))), some (.inl ah), some (.inl (s0 : Int)), some (.inl (k : Int)), some (.inl ((k : Int) + (1)))]) (st' := [.inr (.inr (.inl (some (22))))]) (h' := h25) rfl ?_
                refine wq_gr (p' := 100) (ck_35 _ _ rfl) rfl (congrArg Prod.fst (ly_k C26.1 22 rfl)) rfl (ly_g C26.1 22 0 1 rfl) ?_
                refine wq_cv (p' := 103) (av_qc (.invokevirtual 47) 85 0 0 6) 1 cd_85 [] (1) 6 [some (.inr (.inr (.inl (some (1)))))] (ck_35 _ _ rfl) rfl rfl pp_85 rfl rfl rfl (congrArg Prod.fst (ly_k C26.1 1 rfl)) rfl rfl rfl rfl ?_
                refine ct_85 C26 F27 (fun h37 C38 F39 => ?_)
                generalize q41 : fal t28 = t40 at C38
                have gfal : t40.2.2.2 ≠ -1 := by rw [← q41]; exact fal_ne
                have g42 := ct_wf C38
                show av_wp _ cd_35 103 [some (.inr (.inr (.inl (some (22))))), some (.inr (.inr (.inl (some (t0))))), some (.inl ah), some (.inl (s0 : Int)), some (.inl (k : Int)), some (.inl ((k : Int) + (1)))] [] h37 _
                have hX : rbA b lim ah s0 t r1 = (k, t40, r2) := by simp only [rbA, hx, if_pos (show k = s0 by omega), q41]
                rw [hX] at hq0 hq1
                have zr : ∀ j, 252 ≤ j → r2 j = 0 := fun j hj => (pp2 j (Or.inr hj)).trans (Z0 j hj)
                have ft := F39
                have gF := FB_tr F2 (FB_T ft)
                have gf : ∀ q k, q ≠ 1 → q ≠ 22 → hF h37 q k = hF h q k := fun q k h1 h2 => (ft.2.2.2.2.2.1 q k (by simp only [tF, nbeq h1, Bool.false_and])).trans (F2f q k h1 h2)
                have ga : ∀ a, a ≠ 23 → hA h37 a = hA h a := fun a ha => by
                  by_cases e25 : a = 25
                  · subst e25; exact (ct_d C38).trans (ct_d C).symm
                  · exact (ft.2.2.2.2.2.2 a ha e25).trans (F2a a ha)
                have gr : hR h37 = hR h := ft.2.2.2.1.trans F2r
                have gl : hF h37 1 1 = hF h 1 1 := (ft.2.2.2.2.2.1 1 1 rfl).trans F2l
                refine av_wp_sqF ck_35 1 (pc' := 104) (lv' := [some (.inr (.inr (.inl (some (22))))), some (.inr (.inr (.inl (some (t0))))), some (.inl ah), some (.inl (s0 : Int)), some (.inl (k : Int)), some (.inl ((k : Int) + (1)))]) (st' := [.inr (.inr (.inl (some (22))))]) (h' := h37) rfl ?_
                refine wq_gr (p' := 107) (ck_35 _ _ rfl) rfl (congrArg Prod.fst (ly_k C38.1 22 rfl)) rfl (ly_g C38.1 22 0 1 rfl) ?_
                refine wq_gi (p' := 110) (ck_35 _ _ rfl) rfl (congrArg Prod.fst (ly_k C38.1 1 rfl)) rfl (ct_w C38) ?_
                refine av_wp_sqF ck_35 1 (pc' := 111) (lv' := [some (.inr (.inr (.inl (some (22))))), some (.inr (.inr (.inl (some (t0))))), some (.inl ah), some (.inl (s0 : Int)), some (.inl (k : Int)), some (.inl ((k : Int) + (1)))]) (st' := [.inl (-1), .inl t40.2.2.2]) (h' := h37) rfl ?_
                refine wq_k2 (p' := 114) (ck_35 _ _ rfl) rfl ⟨by omega, by omega⟩ ⟨by omega, by omega⟩ (fun c43 => ?_) (fun c44 => ?_)
                · have c43 : t40.2.2.2 ≠ (-1) := c43
                  refine av_wp_sqF ck_35 1 (pc' := 131) (lv' := [some (.inr (.inr (.inl (some (22))))), some (.inr (.inr (.inl (some (t0))))), some (.inl ah), some (.inl (s0 : Int)), some (.inl (k : Int)), some (.inl ((k : Int) + (1)))]) (st' := [.inr (.inr (.inl none))]) (h' := h37) rfl ?_
                  refine av_wp_ret (v := some (.inr (.inr (.inl none)))) rfl rfl rfl ?_
                  exact hq0 (by omega) h37 C38 gF gf gl gr ga zr
                · have c44 : t40.2.2.2 = (-1) := c44
                  intro hg
                  have l122 : 121 < h37.1 := ly_lt hg C38.1 (by omega)
                  have ctal5 : ∀ h5 : av_H, AL h37 h5 2 (4 + 21 * k) → CT b lim t40 r2 d h5 := fun h5 a5 => CT_al hg C38 a5
                  revert hg
                  show av_wp none cd_35 114 [some (.inr (.inr (.inl (some (22))))), some (.inr (.inr (.inl (some (t0))))), some (.inl ah), some (.inl (s0 : Int)), some (.inl (k : Int)), some (.inl ((k : Int) + (1)))] [] h37 Q
                  refine av_wp_sqF ck_35 3 (pc' := 119) (lv' := [some (.inr (.inr (.inl (some (22))))), some (.inr (.inr (.inl (some (t0))))), some (.inl ah), some (.inl (s0 : Int)), some (.inl (k : Int)), some (.inl ((k : Int) + (1)))]) (st' := [.inr (.inr (.inl (some 22))), .inr (.inr (.inl (some h37.1))), .inr (.inr (.inl (some h37.1)))]) (h' := (av_newO 1 4 h37)) rfl ?_
                  have kq : ∀ q, q < 122 → hK (av_newO 1 4 h37) q = hK h37 q := fun q hq => if_neg (by omega)
                  have gq : ∀ q f, q < 122 → hG (av_newO 1 4 h37) q f = hG h37 q f := fun q f hq => by
                    show av_u1 h37.2.2.2.2.2.1 h37.1 (fun _ => none) q f = _
                    rw [show av_u1 h37.2.2.2.2.2.1 h37.1 (fun _ => none) q = h37.2.2.2.2.2.1 q from if_neg (by omega)]
                  refine wq_gr (p' := 122) (v := some 23) (ck_35 _ _ rfl) rfl (congrArg Prod.fst ((kq 22 (by omega)).trans (ly_k C38.1 22 rfl))) rfl ((gq 22 1 (by omega)).trans (ly_g C38.1 22 1 23 rfl)) ?_
                  refine av_wp_sqF ck_35 1 (pc' := 124) (lv' := [some (.inr (.inr (.inl (some (22))))), some (.inr (.inr (.inl (some (t0))))), some (.inl ah), some (.inl (s0 : Int)), some (.inl (k : Int)), some (.inl ((k : Int) + (1)))]) (st' := [.inl (k : Int), .inr (.inr (.inl (some 23))), .inr (.inr (.inl (some h37.1))), .inr (.inr (.inl (some h37.1)))]) (h' := (av_newO 1 4 h37)) rfl ?_
                  refine wq_cv (p' := 127) (av_qc (.invokespecial 57) 27 2 1 1) 9 cd_27 [.inl (k : Int), .inr (.inr (.inl (some 23)))] (h37.1) 1 [some (.inr (.inr (.inl (some h37.1)))), some (.inr (.inr (.inl (some 23)))), some (.inl (k : Int)), none, none, none, none, none, none] (ck_35 _ _ rfl) rfl rfl pp_27 rfl rfl rfl (congrArg Prod.fst (show hK (av_newO 1 4 h37) h37.1 = (1, 0) from if_pos rfl)) rfl rfl rfl rfl ?_
                  have vk := (pp3 (by omega)).2.1 V0
                  have dk := (pp3 (by omega)).2.2 D0
                  have ha23 : hA (av_newO 1 4 h37) 23 = r2 := (show hA (av_newO 1 4 h37) 23 = hA h37 23 from rfl).trans (ct_r C38)
                  refine ct_27 (n := 252) (s := k) (show hK (av_newO 1 4 h37) h37.1 = (1, 0) from if_pos rfl) (by show h37.1 ≠ h37.1 + 1; omega) (by show 23 ≠ h37.1 + 1; omega) ((kq 23 (by omega)).trans (ly_k C38.1 23 rfl)) pp1.2 (by omega) (by omega) (fun j hj => by rw [ha23]; have z := vk j (by omega); exact ⟨z.1, z.2.1, z.2.2.1⟩) _ rfl (fun f h5 f1 f2 N5 => ?_)
                  show av_wp _ cd_35 127 [some (.inr (.inr (.inl (some (22))))), some (.inr (.inr (.inl (some (t0))))), some (.inl ah), some (.inl (s0 : Int)), some (.inl (k : Int)), some (.inl ((k : Int) + (1)))] [.inr (.inr (.inl (some h37.1)))] h5 _
                  obtain ⟨x5, a5⟩ := nc_cx N5
                  rw [ha23] at f1 f2
                  have v5 : FV k f := by
                    have zf : ∀ j, 21 * k ≤ j → f j = 0 := fun j hj => by
                      rcases f2 j hj with h1 | h1
                      · exact h1
                      · rw [h1.2]; exact zr j (by omega)
                    refine ⟨pp1.2, fun j => ?_, fun q j hj => ?_, fun j hj => ?_⟩
                    · by_cases c : j < 21 * k
                      · rw [f1 j c]; exact ⟨(vk j (by omega)).1, (vk j (by omega)).2.1⟩
                      · rw [zf j (by omega)]; omega
                    · by_cases c : 21 * q + 15 + j < 21 * k
                      · rw [f1 _ c]; exact (vk _ (by omega)).2.2.1 (by omega) (by omega)
                      · rw [zf _ (by omega)]; omega
                    · by_cases c : j < 21 * k
                      · rw [f1 j c]; exact (vk j (by omega)).2.2.2 hj
                      · rw [zf j (by omega)]; omega
                  have d5 : SD k f := fun q hq h2 => by
                    rw [f1 _ (by omega)] at h2
                    rw [f1 _ (by omega)]
                    exact dk q hq h2
                  refine av_wp_sqF ck_35 1 (pc' := 131) (lv' := [some (.inr (.inr (.inl (some (22))))), some (.inr (.inr (.inl (some (t0))))), some (.inl ah), some (.inl (s0 : Int)), some (.inl (k : Int)), some (.inl ((k : Int) + (1)))]) (st' := [.inr (.inr (.inl (some h37.1)))]) (h' := h5) rfl ?_
                  intro hg5
                  refine av_wp_ret (v := some (.inr (.inr (.inl (some h37.1))))) rfl rfl rfl ?_ hg5
                  exact hq1 (by omega) h5 h37 f C38 a5 (ctal5 h5 a5) gF gf gl gr ga zr x5 v5 d5 (by omega) f1 (by omega)
            · have c32 : ((k : Int) + (1)) ≤ (12) := c32
              exfalso; omega
  exact L (13 - s0) s0 t r1 h2 (by omega) (by omega) C2 (FT_rf h2) rfl
end
section
/-! THE REFERENCE BEGINS, AND READS ALL SAYINGS -/
def RY (R r : Nat → Int) (row : Nat) : Prop := RX 3 1 (0, 0, 0, -1) R r row
theorem ry_of {t : TT} {R r : Nat → Int} {row : Nat} (X : RX 3 1 t R r row) (h : t.2.2.2 = -1) : RY R r row := fun _ => X h
/-- a saying's row of the reference -/
def rwA (A : Nat → Nat → Int) (i : Nat) : Nat → Int := fun o => A (vq o) (vk i o)
theorem ry_eq {R R' r r' : Nat → Int} {row : Nat} (X : RY R r row) (e : ∀ o, o < 19 → R' o = R o) (e2 : ∀ o, o < 20 → r' (row + o) = r (row + o)) : RY R' r' row := fun z => by
  obtain ⟨x1, x2, x3, x4, x5⟩ := X z
  refine ⟨fun o h1 h2 => ?_, fun j hj => ?_, ?_, ?_, fun hw => ?_⟩
  · rw [e o (by omega), e2 o (by omega)]; exact x1 o h1 h2
  · rw [e _ (by omega), e _ (by omega), show row + 15 + j = row + (15 + j) by omega, e2 _ (by omega), show row + (15 + j) = row + 15 + j by omega]; exact x2 j hj
  · rw [e _ (by omega), e2 _ (by omega)]; exact x3
  · rw [e2 _ (by omega)]; exact x4
  · rw [e _ (by omega), e2 _ (by omega)]; exact x5 hw
/-- only sayings of the case c from k0 on changed -/
def FR2 (c k0 : Nat) (A0 A : Nat → Nat → Int) : Prop := ∀ a j, (∀ k o, k0 ≤ k → k < 12 → o < 19 → ¬ (vq o = a ∧ vk (12 * c + k) o = j)) → A a j = A0 a j
theorem FR2_rf {c k0 : Nat} {A : Nat → Nat → Int} : FR2 c k0 A A := fun _ _ _ => rfl
theorem FR2_s {c k0 k : Nat} {A0 A B : Nat → Nat → Int} (f : FR2 c k0 A0 A) (w : FRW (12 * c + k) A B) (h1 : k0 ≤ k) (h2 : k < 12) : FR2 c k0 A0 B := fun a j hj => (w a j (fun o ho => hj k o h1 h2 ho)).trans (f a j hj)
theorem FR2_row {c k0 i : Nat} {A0 A : Nat → Nat → Int} (f : FR2 c k0 A0 A) (hi : ∀ k, k0 ≤ k → k < 12 → 12 * c + k ≠ i) (o : Nat) (ho : o < 19) : rwA A i o = rwA A0 i o := f _ _ (fun k q h1 h2 h3 => vk_row h3 ho (hi k h1 h2))

set_option maxRecDepth 100000 in
set_option maxHeartbeats 4000000 in
theorem ct_136 {h : av_H} {b : Nat → Int} (L : LY h) (hb : hA h 94 = b) (bv : ∀ j, -128 ≤ b j ∧ b j ≤ 127) (x : Int) (n : Nat) (ex : x = (n : Int)) (hn : n ≤ 900) {Q : Option av_V → av_H → Prop} (hq : ∀ h', MT b n (adv b n (0, 0, 0, -1)) 0 (hA h) h' → FD h h' → Q none h') : av_wp none cd_136 0 [some (.inr (.inr (.inl (some (77))))), some (.inl x)] [] h Q := by
  subst ex
  have N0 : NS b n (hF h 77 17) (hF h 77 18) (hF h 77 19) (hF h 77 20) (hF h 77 21) (hF h 77 22) (hF h 77 23) (hF h 77 24) (hF h 77 25) (hA h) h := ⟨L, hb, bv, hn, rfl, rfl, rfl, rfl, rfl, rfl, rfl, rfl, rfl, rfl⟩
  have F0 := FD_rf h
  refine av_wp_sqF ck_136 2 (pc' := 2) (lv' := [some (.inr (.inr (.inl (some (77))))), some (.inl (n : Int))]) (st' := [.inl (n : Int), .inr (.inr (.inl (some (77))))]) (h' := h) rfl ?_
  refine ns_p19 (p' := 5) rfl rfl N0 F0 (fun h1 N1 F1 => ?_)
  refine av_wp_sqF ck_136 2 (pc' := 7) (lv' := [some (.inr (.inr (.inl (some (77))))), some (.inl (n : Int))]) (st' := [.inl (0), .inr (.inr (.inl (some (77))))]) (h' := h1) rfl ?_
  refine ns_p17 (p' := 10) rfl rfl N1 F1 (fun h2 N2 F2 => ?_)
  refine av_wp_sqF ck_136 2 (pc' := 12) (lv' := [some (.inr (.inr (.inl (some (77))))), some (.inl (n : Int))]) (st' := [.inl (0), .inr (.inr (.inl (some (77))))]) (h' := h2) rfl ?_
  refine ns_p20 (p' := 15) rfl rfl N2 F2 (fun h3 N3 F3 => ?_)
  refine av_wp_sqF ck_136 2 (pc' := 17) (lv' := [some (.inr (.inr (.inl (some (77))))), some (.inl (n : Int))]) (st' := [.inl (-1), .inr (.inr (.inl (some (77))))]) (h' := h3) rfl ?_
  refine ns_p18 (p' := 20) rfl rfl N3 F3 (fun h4 N4 F4 => ?_)
  refine av_wp_sqF ck_136 2 (pc' := 22) (lv' := [some (.inr (.inr (.inl (some (77))))), some (.inl (n : Int))]) (st' := [.inl (0), .inr (.inr (.inl (some (77))))]) (h' := h4) rfl ?_
  refine ns_p25 (p' := 25) rfl rfl N4 F4 (by omega) (fun h5 N5 F5 => ?_)
  refine av_wp_sqF ck_136 1 (pc' := 26) (lv' := [some (.inr (.inr (.inl (some (77))))), some (.inl (n : Int))]) (st' := [.inr (.inr (.inl (some (77))))]) (h' := h5) rfl ?_
  refine wq_cv (p' := 29) (av_qc (.invokevirtual 191) 130 0 0 8) 2 cd_130 [] (77) 8 [some (.inr (.inr (.inl (some (77))))), none] (ck_136 _ _ rfl) rfl rfl pp_130 rfl rfl rfl (congrArg Prod.fst (ly_k N5.1 77 rfl)) rfl rfl rfl rfl ?_
  have w0 : WF n (0, 0, 0, -1) := ⟨Nat.zero_le _, Nat.zero_le _, hn, by show (0 : Int) ≤ 0 ∧ (0 : Int) ≤ 5; omega, by show (-1 : Int) ≤ -1 ∧ (-1 : Int) ≤ 900; omega⟩
  refine ct_130 (t := (0, 0, 0, -1)) N5 F5 w0 (fun h6 N6 F6 => ?_)
  show av_wp _ cd_136 29 [some (.inr (.inr (.inl (some (77))))), some (.inl (n : Int))] [] h6 _
  exact av_wp_ret (v := none) rfl rfl rfl (hq h6 ⟨N6, adv_ok w0⟩ F6)

set_option maxRecDepth 100000 in
set_option maxHeartbeats 4000000 in
theorem ct_146x {g h : av_H} {b : Nat → Int} {lim : Nat} {t : TT} {x17 : Int} {A : Nat → Nat → Int} (N : MT b lim t x17 A h) (F : FD g h) (c : Nat) (hc : c ≤ 15) (x : Int) (ex : x = (c : Int)) {Q : Option av_V → av_H → Prop} (hq : ∀ h', MT b lim (fal t) x17 A h' → FD g h' → Q none h') : av_wp none cd_146 0 [some (.inr (.inr (.inl (some (77))))), some (.inl x), some (.inl (12)), none, none, none] [] h Q := by
  have gw1 : t.1 ≤ 900 ∧ t.2.1 ≤ lim ∧ lim ≤ 900 := ⟨N.2.1.1, N.2.1.2.1, N.2.1.2.2.1⟩
  have gw2 : -1 ≤ t.2.2.2 ∧ t.2.2.2 ≤ 900 := N.2.1.2.2.2.2
  have gt := tok_f t N.2.1.2.2.2.1
  have gtr := gt.2.2.2.2
  clear gt
  subst ex
  refine av_wp_sqF ck_146 7 (pc' := 8) (lv' := [some (.inr (.inr (.inl (some (77))))), some (.inl (c : Int)), some (.inl (12)), some (.inl (((12) * (c : Int)) + (12))), none, none]) (st' := [.inr (.inr (.inl (some (77))))]) (h' := h) rfl ?_
  refine wq_cv (p' := 11) (av_qc (.invokevirtual 261) 139 0 0 8) 1 cd_139 [] (77) 8 [some (.inr (.inr (.inl (some (77)))))] (ck_146 _ _ rfl) rfl rfl pp_139 rfl rfl rfl (congrArg Prod.fst (ly_k N.1.1 77 rfl)) rfl rfl rfl rfl ?_
  refine ct_139 N F (fun v1 p2 => ?_)
  show av_wp _ cd_146 11 [some (.inr (.inr (.inl (some (77))))), some (.inl (c : Int)), some (.inl (12)), some (.inl (((12) * (c : Int)) + (12))), none, none] [.inl v1] h _
  refine av_wp_sqF ck_146 2 (pc' := 15) (lv' := [some (.inr (.inr (.inl (some (77))))), some (.inl (c : Int)), some (.inl (12)), some (.inl (((12) * (c : Int)) + (12))), some (.inl v1), none]) (st' := [.inl v1]) (h' := h) rfl ?_
  refine wq_k1 (p' := 18) (ck_146 _ _ rfl) rfl ⟨by omega, by omega⟩ (fun c3 => ?_) (fun c4 => ?_)
  · have c3 : v1 < (0) := c3
    refine av_wp_sqF ck_146 1 (pc' := 25) (lv' := [some (.inr (.inr (.inl (some (77))))), some (.inl (c : Int)), some (.inl (12)), some (.inl (((12) * (c : Int)) + (12))), some (.inl v1), none]) (st' := [.inr (.inr (.inl (some (77))))]) (h' := h) rfl ?_
    refine wq_cv (p' := 28) (av_qc (.invokevirtual 194) 131 0 0 8) 1 cd_131 [] (77) 8 [some (.inr (.inr (.inl (some (77)))))] (ck_146 _ _ rfl) rfl rfl pp_131 rfl rfl rfl (congrArg Prod.fst (ly_k N.1.1 77 rfl)) rfl rfl rfl rfl ?_
    refine ct_131 N F (fun h5 N6 F7 => ?_)
    show av_wp _ cd_146 28 [some (.inr (.inr (.inl (some (77))))), some (.inl (c : Int)), some (.inl (12)), some (.inl (((12) * (c : Int)) + (12))), some (.inl v1), none] [] h5 _
    refine av_wp_ret (v := none) (ck_146 _ _ rfl) rfl rfl ?_
    exact hq h5 N6 F7
  · have c4 : (0) ≤ v1 := c4
    refine av_wp_sqF ck_146 4 (pc' := 25) (lv' := [some (.inr (.inr (.inl (some (77))))), some (.inl (c : Int)), some (.inl (12)), some (.inl (((12) * (c : Int)) + (12))), some (.inl v1), none]) (st' := [.inr (.inr (.inl (some (77))))]) (h' := h) rfl ?_
    refine wq_cv (p' := 28) (av_qc (.invokevirtual 194) 131 0 0 8) 1 cd_131 [] (77) 8 [some (.inr (.inr (.inl (some (77)))))] (ck_146 _ _ rfl) rfl rfl pp_131 rfl rfl rfl (congrArg Prod.fst (ly_k N.1.1 77 rfl)) rfl rfl rfl rfl ?_
    refine ct_131 N F (fun h8 N9 F10 => ?_)
    show av_wp _ cd_146 28 [some (.inr (.inr (.inl (some (77))))), some (.inl (c : Int)), some (.inl (12)), some (.inl (((12) * (c : Int)) + (12))), some (.inl v1), none] [] h8 _
    refine av_wp_ret (v := none) (ck_146 _ _ rfl) rfl rfl ?_
    exact hq h8 N9 F10

set_option maxRecDepth 100000 in
set_option maxHeartbeats 4000000 in
theorem ct_147 {g h : av_H} {b : Nat → Int} {lim : Nat} {t : TT} {x17 : Int} (N : MT b lim t x17 (hA h) h) (F : FD g h) (B : BN (hA h)) (c k0 : Nat) (hc : c ≤ 15) (hk : k0 ≤ 12) (ht : t.2.2.2 = -1) (x y : Int) (ex : x = (c : Int)) (ey : y = (k0 : Int)) {r : Nat → Int} (rel : ∀ j, j < k0 → RY (rwA (hA h) (12 * c + j)) r (j * 21)) {Q : Option av_V → av_H → Prop} (hq : ∀ (v : Int) h', MT b lim (rbA b lim (c : Int) k0 t r).2.1 x17 (hA h') h' → FD g h' → BN (hA h') → FR2 c k0 (hA h) (hA h') → ((rbA b lim (c : Int) k0 t r).2.1.2.2.2 = -1 → v = ((rbA b lim (c : Int) k0 t r).1 : Int) ∧ ∀ j, j < (rbA b lim (c : Int) k0 t r).1 → RY (rwA (hA h') (12 * c + j)) (rbA b lim (c : Int) k0 t r).2.2 (j * 21)) → ((rbA b lim (c : Int) k0 t r).2.1.2.2.2 ≠ -1 → v = -1) → Q (some (.inl v)) h') : av_wp none cd_147 0 [some (.inr (.inr (.inl (some (77))))), some (.inl x), some (.inl y), none] [] h Q := by
  subst ex
  subst ey
  have gt0 := (tok_f t N.2.1.2.2.2.1).2.2.1
  have gtr := (tok_f t N.2.1.2.2.2.1).2.2.2.2
  refine av_wp_sqF ck_147 3 (pc' := 3) (lv' := [some (.inr (.inr (.inl (some (77))))), some (.inl (c : Int)), some (.inl (k0 : Int)), some (.inl (k0 : Int))]) (st' := [.inr (.inr (.inl (some (77))))]) (h' := h) rfl ?_
  refine wq_gi (p' := 6) (ck_147 _ _ rfl) rfl (congrArg Prod.fst (ly_k N.1.1 77 rfl)) rfl (ns_22 N.1) ?_
  refine wq_k1 (p' := 9) (ck_147 _ _ rfl) rfl ⟨by omega, by omega⟩ (fun c1 => ?_) (fun c2 => ?_)
  · have c1 : (tokv t) ≠ (0) := c1
    have L : ∀ (n k : Nat) (t1 : TT) (r1 : Nat → Int) (h1 : av_H), n + k = 13 → k ≤ 12 → k0 ≤ k → (k0 < k ∨ (t1.2.2.2 = -1 ∧ t1.2.2.1 ≠ 0)) → MT b lim t1 x17 (hA h1) h1 → FD g h1 → BN (hA h1) → FR2 c k0 (hA h) (hA h1) → (t1.2.2.2 = -1 → ∀ j, j < k → RY (rwA (hA h1) (12 * c + j)) r1 (j * 21)) → rbf b lim (c : Int) n k t1 r1 = rbf b lim (c : Int) (13 - k0) k0 t r → av_wp none cd_147 13 [some (.inr (.inr (.inl (some (77))))), some (.inl (c : Int)), some (.inl (k0 : Int)), some (.inl (k : Int))] [] h1 Q := by
      intro n
      induction n with
      | zero => intro k t1 r1 h1 e1 e2; exfalso; omega
      | succ n ih =>
        intro k t1 r1 h1 e1 e2 e3 e4 N1 F1 B1 W1 Y1 he
        have gt0 := (tok_f t1 N1.2.1.2.2.2.1).2.2.1
        have gtr := (tok_f t1 N1.2.1.2.2.2.1).2.2.2.2
        have gwr1 := wr_f t1
        have rl : t1.2.2.2 = -1 → ∀ s, s < k → hA h1 82 (12 * c + s) = r1 (s * 21) ∧ hA h1 83 (12 * c + s) = r1 (s * 21 + 1) ∧ hA h1 84 (12 * c + s) = r1 (s * 21 + 2) := fun z s hs => by
          have y := (Y1 z s hs rfl).1
          have y0 : hA h1 82 (1 * (12 * c + s) + 0) = r1 (s * 21 + 0) := y 0 (by omega) (by omega)
          have y1 : hA h1 83 (1 * (12 * c + s) + 0) = r1 (s * 21 + 1) := y 1 (by omega) (by omega)
          have y2 : hA h1 84 (1 * (12 * c + s) + 0) = r1 (s * 21 + 2) := y 2 (by omega) (by omega)
          rw [show 1 * (12 * c + s) + 0 = 12 * c + s by omega] at y0 y1 y2
          exact ⟨y0, y1, y2⟩
        refine av_wp_sqF ck_147 1 (pc' := 14) (lv' := [some (.inr (.inr (.inl (some (77))))), some (.inl (c : Int)), some (.inl (k0 : Int)), some (.inl (k : Int))]) (st' := [.inr (.inr (.inl (some (77))))]) (h' := h1) rfl ?_
        refine wq_gi (p' := 17) (ck_147 _ _ rfl) rfl (congrArg Prod.fst (ly_k N1.1.1 77 rfl)) rfl (ns_22 N1.1) ?_
        refine wq_k1 (p' := 20) (ck_147 _ _ rfl) rfl ⟨by omega, by omega⟩ (fun c3 => ?_) (fun c4 => ?_)
        · have c3 : (tokv t1) = (0) := c3
          have hX : rbA b lim (c : Int) k0 t r = (k, t1, r1) := by
            have hx : rbf b lim (c : Int) (13 - k0) k0 t r = (k, t1, r1) := by rw [← he]; unfold rbf; rw [if_neg (by omega)]
            simp only [rbA, hx, if_neg (show ¬ k = k0 by omega)]
          refine av_wp_sqF ck_147 1 (pc' := 40) (lv' := [some (.inr (.inr (.inl (some (77))))), some (.inl (c : Int)), some (.inl (k0 : Int)), some (.inl (k : Int))]) (st' := [.inr (.inr (.inl (some (77))))]) (h' := h1) rfl ?_
          refine wq_gb (p' := 43) (ck_147 _ _ rfl) rfl (congrArg Prod.fst (ly_k N1.1.1 77 rfl)) rfl (ns_25 N1.1) ?_
          refine wq_k1 (p' := 46) (ck_147 _ _ rfl) rfl ⟨by omega, by omega⟩ (fun c5 => ?_) (fun c6 => ?_)
          · have c5 : (wrv t1) = (0) := c5
            refine av_wp_sqF ck_147 1 (pc' := 51) (lv' := [some (.inr (.inr (.inl (some (77))))), some (.inl (c : Int)), some (.inl (k0 : Int)), some (.inl (k : Int))]) (st' := [.inl (k : Int)]) (h' := h1) rfl ?_
            refine av_wp_ret (v := some (.inl (k : Int))) (ck_147 _ _ rfl) rfl rfl ?_
            rw [hX] at hq
            exact hq _ h1 N1 F1 B1 W1 (fun z => ⟨rfl, Y1 z⟩) (fun z => absurd (show t1.2.2.2 = -1 by omega) z)
          · have c6 : (wrv t1) ≠ (0) := c6
            refine av_wp_sqF ck_147 2 (pc' := 51) (lv' := [some (.inr (.inr (.inl (some (77))))), some (.inl (c : Int)), some (.inl (k0 : Int)), some (.inl (k : Int))]) (st' := [.inl (-1)]) (h' := h1) rfl ?_
            refine av_wp_ret (v := some (.inl (-1))) (ck_147 _ _ rfl) rfl rfl ?_
            rw [hX] at hq
            exact hq _ h1 N1 F1 B1 W1 (fun z => absurd (show t1.2.2.2 = -1 from z) (by omega)) (fun _ => rfl)
        · have c4 : (tokv t1) ≠ (0) := c4
          refine av_wp_sqF ck_147 1 (pc' := 21) (lv' := [some (.inr (.inr (.inl (some (77))))), some (.inl (c : Int)), some (.inl (k0 : Int)), some (.inl (k : Int))]) (st' := [.inr (.inr (.inl (some (77))))]) (h' := h1) rfl ?_
          refine wq_gb (p' := 24) (ck_147 _ _ rfl) rfl (congrArg Prod.fst (ly_k N1.1.1 77 rfl)) rfl (ns_25 N1.1) ?_
          refine wq_k1 (p' := 27) (ck_147 _ _ rfl) rfl ⟨by omega, by omega⟩ (fun c7 => ?_) (fun c8 => ?_)
          · have c7 : (wrv t1) ≠ (0) := c7
            have hX : rbA b lim (c : Int) k0 t r = (k, t1, r1) := by
              have hx : rbf b lim (c : Int) (13 - k0) k0 t r = (k, t1, r1) := by rw [← he]; unfold rbf; rw [if_neg (by omega)]
              simp only [rbA, hx, if_neg (show ¬ k = k0 by omega)]
            refine av_wp_sqF ck_147 1 (pc' := 40) (lv' := [some (.inr (.inr (.inl (some (77))))), some (.inl (c : Int)), some (.inl (k0 : Int)), some (.inl (k : Int))]) (st' := [.inr (.inr (.inl (some (77))))]) (h' := h1) rfl ?_
            refine wq_gb (p' := 43) (ck_147 _ _ rfl) rfl (congrArg Prod.fst (ly_k N1.1.1 77 rfl)) rfl (ns_25 N1.1) ?_
            refine wq_k1 (p' := 46) (ck_147 _ _ rfl) rfl ⟨by omega, by omega⟩ (fun c9 => ?_) (fun c10 => ?_)
            · have c9 : (wrv t1) = (0) := c9
              refine av_wp_sqF ck_147 1 (pc' := 51) (lv' := [some (.inr (.inr (.inl (some (77))))), some (.inl (c : Int)), some (.inl (k0 : Int)), some (.inl (k : Int))]) (st' := [.inl (k : Int)]) (h' := h1) rfl ?_
              refine av_wp_ret (v := some (.inl (k : Int))) (ck_147 _ _ rfl) rfl rfl ?_
              rw [hX] at hq
              exact hq _ h1 N1 F1 B1 W1 (fun z => ⟨rfl, Y1 z⟩) (fun z => absurd (show t1.2.2.2 = -1 by omega) z)
            · have c10 : (wrv t1) ≠ (0) := c10
              refine av_wp_sqF ck_147 2 (pc' := 51) (lv' := [some (.inr (.inr (.inl (some (77))))), some (.inl (c : Int)), some (.inl (k0 : Int)), some (.inl (k : Int))]) (st' := [.inl (-1)]) (h' := h1) rfl ?_
              refine av_wp_ret (v := some (.inl (-1))) (ck_147 _ _ rfl) rfl rfl ?_
              rw [hX] at hq
              exact hq _ h1 N1 F1 B1 W1 (fun z => absurd (show t1.2.2.2 = -1 from z) (by omega)) (fun _ => rfl)
          · have c8 : (wrv t1) = (0) := c8
            by_cases ek : k = 12
            · subst ek
              show av_wp none cd_147 27 [some (.inr (.inr (.inl (some (77))))), some (.inl (c : Int)), some (.inl (k0 : Int)), some (.inl (12))] [] h1 Q
              refine av_wp_sqF ck_147 3 (pc' := 30) (lv' := [some (.inr (.inr (.inl (some (77))))), some (.inl (c : Int)), some (.inl (k0 : Int)), some (.inl (12))]) (st' := [.inl (12), .inl (c : Int), .inr (.inr (.inl (some (77))))]) (h' := h1) rfl ?_
              refine wq_cv (p' := 33) (av_qc (.invokevirtual 289) 146 2 0 8) 6 cd_146 [.inl (12), .inl (c : Int)] (77) 8 [some (.inr (.inr (.inl (some (77))))), some (.inl (c : Int)), some (.inl (12)), none, none, none] (ck_147 _ _ rfl) rfl rfl pp_146 rfl rfl rfl (congrArg Prod.fst (ly_k N1.1.1 77 rfl)) rfl rfl rfl rfl ?_
              refine ct_146x N1 F1 c (by omega) _ rfl (fun h11 N12 F13 => ?_)
              generalize q15 : fal t1 = t14 at N12
              have gf : t14.2.2.2 ≠ -1 := by rw [← q15]; exact fal_ne
              have gwrt14 := wr_f t14
              have gtkt14 := (tok_f t14 N12.2.1.2.2.2.1).2.2.2.2
              have ahh11 : hA h11 = hA h1 := ns_A N12.1
              show av_wp _ cd_147 33 [some (.inr (.inr (.inl (some (77))))), some (.inl (c : Int)), some (.inl (k0 : Int)), some (.inl (12))] [] h11 _
              refine av_wp_sqF ck_147 2 (pc' := 13) (lv' := [some (.inr (.inr (.inl (some (77))))), some (.inl (c : Int)), some (.inl (k0 : Int)), some (.inl (13))]) (st' := []) (h' := h11) rfl ?_
              refine av_wp_sqF ck_147 1 (pc' := 14) (lv' := [some (.inr (.inr (.inl (some (77))))), some (.inl (c : Int)), some (.inl (k0 : Int)), some (.inl (13))]) (st' := [.inr (.inr (.inl (some (77))))]) (h' := h11) rfl ?_
              refine wq_gi (p' := 17) (ck_147 _ _ rfl) rfl (congrArg Prod.fst (ly_k N12.1.1 77 rfl)) rfl (ns_22 N12.1) ?_
              refine wq_k1 (p' := 20) (ck_147 _ _ rfl) rfl ⟨by omega, by omega⟩ (fun c16 => ?_) (fun c17 => ?_)
              · have c16 : (tokv t14) = (0) := c16
                have hX : rbA b lim (c : Int) k0 t r = (12, t14, r1) := by
                  have hx : rbf b lim (c : Int) (13 - k0) k0 t r = (12, t14, r1) := by rw [← he]; unfold rbf; rw [if_pos (by omega), if_pos rfl, q15]
                  simp only [rbA, hx]
                  split
                  · rw [fal_id gf]
                  · rfl
                refine av_wp_sqF ck_147 1 (pc' := 40) (lv' := [some (.inr (.inr (.inl (some (77))))), some (.inl (c : Int)), some (.inl (k0 : Int)), some (.inl (13))]) (st' := [.inr (.inr (.inl (some (77))))]) (h' := h11) rfl ?_
                refine wq_gb (p' := 43) (ck_147 _ _ rfl) rfl (congrArg Prod.fst (ly_k N12.1.1 77 rfl)) rfl (ns_25 N12.1) ?_
                refine wq_k1 (p' := 46) (ck_147 _ _ rfl) rfl ⟨by omega, by omega⟩ (fun c18 => ?_) (fun c19 => ?_)
                · have c18 : (wrv t14) = (0) := c18
                  exfalso; omega
                · have c19 : (wrv t14) ≠ (0) := c19
                  refine av_wp_sqF ck_147 2 (pc' := 51) (lv' := [some (.inr (.inr (.inl (some (77))))), some (.inl (c : Int)), some (.inl (k0 : Int)), some (.inl (13))]) (st' := [.inl (-1)]) (h' := h11) rfl ?_
                  refine av_wp_ret (v := some (.inl (-1))) (ck_147 _ _ rfl) rfl rfl ?_
                  rw [hX] at hq
                  exact hq _ h11 (by rw [ahh11]; exact N12) F13 (by rw [ahh11]; exact B1) (by rw [ahh11]; exact W1) (fun z => absurd z gf) (fun _ => rfl)
              · have c17 : (tokv t14) ≠ (0) := c17
                refine av_wp_sqF ck_147 1 (pc' := 21) (lv' := [some (.inr (.inr (.inl (some (77))))), some (.inl (c : Int)), some (.inl (k0 : Int)), some (.inl (13))]) (st' := [.inr (.inr (.inl (some (77))))]) (h' := h11) rfl ?_
                refine wq_gb (p' := 24) (ck_147 _ _ rfl) rfl (congrArg Prod.fst (ly_k N12.1.1 77 rfl)) rfl (ns_25 N12.1) ?_
                refine wq_k1 (p' := 27) (ck_147 _ _ rfl) rfl ⟨by omega, by omega⟩ (fun c20 => ?_) (fun c21 => ?_)
                · have c20 : (wrv t14) ≠ (0) := c20
                  have hX : rbA b lim (c : Int) k0 t r = (12, t14, r1) := by
                    have hx : rbf b lim (c : Int) (13 - k0) k0 t r = (12, t14, r1) := by rw [← he]; unfold rbf; rw [if_pos (by omega), if_pos rfl, q15]
                    simp only [rbA, hx]
                    split
                    · rw [fal_id gf]
                    · rfl
                  refine av_wp_sqF ck_147 1 (pc' := 40) (lv' := [some (.inr (.inr (.inl (some (77))))), some (.inl (c : Int)), some (.inl (k0 : Int)), some (.inl (13))]) (st' := [.inr (.inr (.inl (some (77))))]) (h' := h11) rfl ?_
                  refine wq_gb (p' := 43) (ck_147 _ _ rfl) rfl (congrArg Prod.fst (ly_k N12.1.1 77 rfl)) rfl (ns_25 N12.1) ?_
                  refine wq_k1 (p' := 46) (ck_147 _ _ rfl) rfl ⟨by omega, by omega⟩ (fun c22 => ?_) (fun c23 => ?_)
                  · have c22 : (wrv t14) = (0) := c22
                    exfalso; omega
                  · have c23 : (wrv t14) ≠ (0) := c23
                    refine av_wp_sqF ck_147 2 (pc' := 51) (lv' := [some (.inr (.inr (.inl (some (77))))), some (.inl (c : Int)), some (.inl (k0 : Int)), some (.inl (13))]) (st' := [.inl (-1)]) (h' := h11) rfl ?_
                    refine av_wp_ret (v := some (.inl (-1))) (ck_147 _ _ rfl) rfl rfl ?_
                    rw [hX] at hq
                    exact hq _ h11 (by rw [ahh11]; exact N12) F13 (by rw [ahh11]; exact B1) (by rw [ahh11]; exact W1) (fun z => absurd z gf) (fun _ => rfl)
                · have c21 : (wrv t14) = (0) := c21
                  exfalso; omega
            · have rl := rl (by omega)
              refine av_wp_sqF ck_147 3 (pc' := 30) (lv' := [some (.inr (.inr (.inl (some (77))))), some (.inl (c : Int)), some (.inl (k0 : Int)), some (.inl (k : Int))]) (st' := [.inl (k : Int), .inl (c : Int), .inr (.inr (.inl (some (77))))]) (h' := h1) rfl ?_
              refine wq_cv (p' := 33) (av_qc (.invokevirtual 289) 146 2 0 8) 6 cd_146 [.inl (k : Int), .inl (c : Int)] (77) 8 [some (.inr (.inr (.inl (some (77))))), some (.inl (c : Int)), some (.inl (k : Int)), none, none, none] (ck_147 _ _ rfl) rfl rfl pp_146 rfl rfl rfl (congrArg Prod.fst (ly_k N1.1.1 77 rfl)) rfl rfl rfl rfl ?_
              refine ct_146 N1 F1 B1 c k (by omega) (by omega) _ _ rfl rfl (r := r1) (fun s hs => rl s hs) (fun h24 R25 M26 F27 X28 => ?_)
              show av_wp _ cd_147 33 [some (.inr (.inr (.inl (some (77))))), some (.inl (c : Int)), some (.inl (k0 : Int)), some (.inl (k : Int))] [] h24 _
              refine av_wp_sqF ck_147 2 (pc' := 13) (lv' := [some (.inr (.inr (.inl (some (77))))), some (.inl (c : Int)), some (.inl (k0 : Int)), some (.inl ((k : Int) + (1)))]) (st' := []) (h' := h24) rfl ?_
              have ok1 : t1.2.2.2 = -1 := by omega
              have fr : ∀ j, (j < k * 21 ∨ k * 21 + 21 ≤ j) → (rsy b lim k (c : Int) t1 r1).2 j = r1 j := fun j hj => rsy_fr hj
              have he2 : rbf b lim (c : Int) n (k + 1) (rsy b lim k (c : Int) t1 r1).1 (rsy b lim k (c : Int) t1 r1).2 = rbf b lim (c : Int) (13 - k0) k0 t r := by
                rw [← he]
                conv => rhs; unfold rbf
                rw [if_pos (by omega), if_neg (by omega)]
              refine ih (k + 1) _ _ h24 (by omega) (by omega) (by omega) (Or.inl (by omega)) M26.1 F27 M26.2.2.1 (FR2_s W1 M26.2.2.2 (by omega) (by omega)) (fun z j hj => ?_) he2
              by_cases ej : j = k
              · subst ej
                exact ry_eq (ry_of X28 z) (fun o ho => M26.2.1 o ho) (fun _ _ => rfl)
              · refine ry_eq (Y1 ok1 j (by omega)) (fun o ho => FRW_row M26.2.2.2 ho (by omega)) (fun o ho => fr _ (by omega))
    exact L (13 - k0) k0 t r h (by omega) (by omega) (Nat.le_refl _) (Or.inr (by omega)) N F B FR2_rf (fun _ => rel) rfl
  · have c2 : (tokv t) = (0) := c2
    refine av_wp_sqF ck_147 1 (pc' := 10) (lv' := [some (.inr (.inr (.inl (some (77))))), some (.inl (c : Int)), some (.inl (k0 : Int)), some (.inl (k0 : Int))]) (st' := [.inr (.inr (.inl (some (77))))]) (h' := h) rfl ?_
    refine wq_cv (p' := 13) (av_qc (.invokevirtual 194) 131 0 0 8) 1 cd_131 [] (77) 8 [some (.inr (.inr (.inl (some (77)))))] (ck_147 _ _ rfl) rfl rfl pp_131 rfl rfl rfl (congrArg Prod.fst (ly_k N.1.1 77 rfl)) rfl rfl rfl rfl ?_
    refine ct_131 N F (fun h29 N30 F31 => ?_)
    generalize q33 : fal t = t32 at N30
    have gf : t32.2.2.2 ≠ -1 := by rw [← q33]; exact fal_ne
    have gwrt32 := wr_f t32
    have gtkt32 := (tok_f t32 N30.2.1.2.2.2.1).2.2.2.2
    have ahh29 : hA h29 = hA h := ns_A N30.1
    show av_wp _ cd_147 13 [some (.inr (.inr (.inl (some (77))))), some (.inl (c : Int)), some (.inl (k0 : Int)), some (.inl (k0 : Int))] [] h29 _
    have hX : rbA b lim (c : Int) k0 t r = (k0, t32, r) := by
      have hx : rbf b lim (c : Int) (13 - k0) k0 t r = (k0, t, r) := by rw [show 13 - k0 = (12 - k0) + 1 by omega]; unfold rbf; rw [if_neg (by omega)]
      simp only [rbA, hx, if_true, q33]
    refine av_wp_sqF ck_147 1 (pc' := 14) (lv' := [some (.inr (.inr (.inl (some (77))))), some (.inl (c : Int)), some (.inl (k0 : Int)), some (.inl (k0 : Int))]) (st' := [.inr (.inr (.inl (some (77))))]) (h' := h29) rfl ?_
    refine wq_gi (p' := 17) (ck_147 _ _ rfl) rfl (congrArg Prod.fst (ly_k N30.1.1 77 rfl)) rfl (ns_22 N30.1) ?_
    refine wq_k1 (p' := 20) (ck_147 _ _ rfl) rfl ⟨by omega, by omega⟩ (fun c34 => ?_) (fun c35 => ?_)
    · have c34 : (tokv t32) = (0) := c34
      refine av_wp_sqF ck_147 1 (pc' := 40) (lv' := [some (.inr (.inr (.inl (some (77))))), some (.inl (c : Int)), some (.inl (k0 : Int)), some (.inl (k0 : Int))]) (st' := [.inr (.inr (.inl (some (77))))]) (h' := h29) rfl ?_
      refine wq_gb (p' := 43) (ck_147 _ _ rfl) rfl (congrArg Prod.fst (ly_k N30.1.1 77 rfl)) rfl (ns_25 N30.1) ?_
      refine wq_k1 (p' := 46) (ck_147 _ _ rfl) rfl ⟨by omega, by omega⟩ (fun c36 => ?_) (fun c37 => ?_)
      · have c36 : (wrv t32) = (0) := c36
        exfalso; omega
      · have c37 : (wrv t32) ≠ (0) := c37
        refine av_wp_sqF ck_147 2 (pc' := 51) (lv' := [some (.inr (.inr (.inl (some (77))))), some (.inl (c : Int)), some (.inl (k0 : Int)), some (.inl (k0 : Int))]) (st' := [.inl (-1)]) (h' := h29) rfl ?_
        refine av_wp_ret (v := some (.inl (-1))) (ck_147 _ _ rfl) rfl rfl ?_
        rw [hX] at hq
        exact hq _ h29 (by rw [ahh29]; exact N30) F31 (by rw [ahh29]; exact B) (by rw [ahh29]; exact FR2_rf) (fun z => absurd z gf) (fun _ => rfl)
    · have c35 : (tokv t32) ≠ (0) := c35
      refine av_wp_sqF ck_147 1 (pc' := 21) (lv' := [some (.inr (.inr (.inl (some (77))))), some (.inl (c : Int)), some (.inl (k0 : Int)), some (.inl (k0 : Int))]) (st' := [.inr (.inr (.inl (some (77))))]) (h' := h29) rfl ?_
      refine wq_gb (p' := 24) (ck_147 _ _ rfl) rfl (congrArg Prod.fst (ly_k N30.1.1 77 rfl)) rfl (ns_25 N30.1) ?_
      refine wq_k1 (p' := 27) (ck_147 _ _ rfl) rfl ⟨by omega, by omega⟩ (fun c38 => ?_) (fun c39 => ?_)
      · have c38 : (wrv t32) ≠ (0) := c38
        refine av_wp_sqF ck_147 1 (pc' := 40) (lv' := [some (.inr (.inr (.inl (some (77))))), some (.inl (c : Int)), some (.inl (k0 : Int)), some (.inl (k0 : Int))]) (st' := [.inr (.inr (.inl (some (77))))]) (h' := h29) rfl ?_
        refine wq_gb (p' := 43) (ck_147 _ _ rfl) rfl (congrArg Prod.fst (ly_k N30.1.1 77 rfl)) rfl (ns_25 N30.1) ?_
        refine wq_k1 (p' := 46) (ck_147 _ _ rfl) rfl ⟨by omega, by omega⟩ (fun c40 => ?_) (fun c41 => ?_)
        · have c40 : (wrv t32) = (0) := c40
          exfalso; omega
        · have c41 : (wrv t32) ≠ (0) := c41
          refine av_wp_sqF ck_147 2 (pc' := 51) (lv' := [some (.inr (.inr (.inl (some (77))))), some (.inl (c : Int)), some (.inl (k0 : Int)), some (.inl (k0 : Int))]) (st' := [.inl (-1)]) (h' := h29) rfl ?_
          refine av_wp_ret (v := some (.inl (-1))) (ck_147 _ _ rfl) rfl rfl ?_
          rw [hX] at hq
          exact hq _ h29 (by rw [ahh29]; exact N30) F31 (by rw [ahh29]; exact B) (by rw [ahh29]; exact FR2_rf) (fun z => absurd z gf) (fun _ => rfl)
      · have c39 : (wrv t32) = (0) := c39
        exfalso; omega
end
section
/-! THE BOOK: frames by what may change; what class and reference hold, and that it is the same -/
def FQ (eA eR : Nat → Prop) (eF eG : Nat → Nat → Prop) (g h : av_H) (n m : Nat) : Prop := h.1 = g.1 + n ∧ h.2.1 = g.2.1 + m ∧ ∀ q, q < g.1 → hK h q = hK g q ∧ (∀ k, ¬ eG q k → hG h q k = hG g q k) ∧ (¬ eA q → hA h q = hA g q) ∧ (¬ eR q → hR h q = hR g q) ∧ ∀ k, ¬ eF q k → hF h q k = hF g q k
def nun1 : Nat → Prop := fun _ => False
def nun2 : Nat → Nat → Prop := fun _ _ => False
section
variable {eA eR eA' eR' : Nat → Prop} {eF eG eF' eG' : Nat → Nat → Prop} {g h k : av_H} {n m n' m' : Nat}
theorem FQ_tr (a : FQ eA eR eF eG g h n m) (c : FQ eA eR eF eG h k n' m') : FQ eA eR eF eG g k (n + n') (m + m') := by
  refine ⟨by rw [c.1, a.1]; omega, by rw [c.2.1, a.2.1]; omega, fun q hq => ?_⟩
  obtain ⟨a1, a2, a3, a4, a5⟩ := a.2.2 q hq
  obtain ⟨c1, c2, c3, c4, c5⟩ := c.2.2 q (by rw [a.1]; omega)
  exact ⟨c1.trans a1, fun j e => (c2 j e).trans (a2 j e), fun e => (c3 e).trans (a3 e), fun e => (c4 e).trans (a4 e), fun j e => (c5 j e).trans (a5 j e)⟩
theorem FQ_mo (a : FQ eA eR eF eG g h n m) (h1 : ∀ q, eA q → eA' q) (h2 : ∀ q, eR q → eR' q) (h3 : ∀ q j, eF q j → eF' q j) (h4 : ∀ q j, eG q j → eG' q j) : FQ eA' eR' eF' eG' g h n m := ⟨a.1, a.2.1, fun q hq => ⟨(a.2.2 q hq).1, fun j e => (a.2.2 q hq).2.1 j (fun z => e (h4 q j z)), fun e => (a.2.2 q hq).2.2.1 (fun z => e (h1 q z)), fun e => (a.2.2 q hq).2.2.2.1 (fun z => e (h2 q z)), fun j e => (a.2.2 q hq).2.2.2.2 j (fun z => e (h3 q j z))⟩⟩
theorem FQ_eq (a : FQ eA eR eF eG g h n m) (e : n = n') (f : m = m') : FQ eA eR eF eG g h n' m' := by
  subst e
  subst f
  exact a
theorem FQ_al (a : AL g h n m) : FQ eA eR eF eG g h n m := ⟨a.1, a.2.1, fun q hq => ⟨(a.2.2 q hq).1, fun j _ => congrFun (a.2.2 q hq).2.2.2.1 j, fun _ => (a.2.2 q hq).2.1, fun _ => (a.2.2 q hq).2.2.2.2, fun j _ => congrFun (a.2.2 q hq).2.2.1 j⟩⟩
theorem FQ_wF {o f : Nat} {v : Int} (e : eF o f) : FQ eA eR eF eG h (hwF h o f v) 0 0 := ⟨rfl, rfl, fun q _ => ⟨rfl, fun _ _ => rfl, fun _ => rfl, fun _ => rfl, fun j ej => by
  show av_u2 h.2.2.2.2.1 o f v q j = _
  have hne : ¬ (q = o ∧ j = f) := fun z => by rw [z.1, z.2] at ej; exact ej e
  rw [av_u2, if_neg hne]⟩⟩
theorem FQ_wR {o j : Nat} {v : Option Nat} (e : eR o) : FQ eA eR eF eG h (hwR h o j v) 0 0 := ⟨rfl, rfl, fun q _ => ⟨rfl, fun _ _ => rfl, fun _ => rfl, fun ej => by
  show av_u2 h.2.2.2.2.2.2.1 o j v q = _
  have hne : q ≠ o := fun z => by rw [z] at ej; exact ej e
  rw [av_u2_ne hne], fun _ _ => rfl⟩⟩
theorem FQ_A {A : Nat → Nat → Int} (e : ∀ q, ¬ eA q → A q = hA h q) : FQ eA eR eF eG h (h.1, h.2.1, h.2.2.1, A, h.2.2.2.2) 0 0 := ⟨rfl, rfl, fun q _ => ⟨rfl, fun _ _ => rfl, fun ej => e q ej, fun _ => rfl, fun _ _ => rfl⟩⟩
theorem FQ_T (F : FT g h) (h1 : eA 23) (h2 : eA 25) (h3 : ∀ j, eF 1 j) : FQ eA eR eF eG g h 0 0 := ⟨F.1, F.2.1, fun q _ => ⟨congrFun F.2.2.1 q, fun j _ => congrFun (congrFun F.2.2.2.2.1 q) j, fun e => F.2.2.2.2.2.2 q (fun z => by subst z; exact e h1) (fun z => by subst z; exact e h2), fun _ => congrFun F.2.2.2.1 q, fun j e => F.2.2.2.2.2.1 q j (by
  have hq : q ≠ 1 := fun z => by subst z; exact e (h3 j)
  simp only [tF, nbeq hq, Bool.false_and])⟩⟩
theorem FQ_fb (a : FQ eA eR eF eG g h n m) (h1 : ∀ q, eA q → bA q = true) (h2 : ∀ q, eR q → bR q = true) (h3 : ∀ q j, eF q j → bF q j = true) (h4 : ∀ q j, ¬ eG q j) : FB g h n m := ⟨a.1, a.2.1, fun q hq => (a.2.2 q hq).1, fun q hq e => (a.2.2 q hq).2.2.1 (fun z => by rw [h1 q z] at e; cases e), fun q j hq e => (a.2.2 q hq).2.2.2.2 j (fun z => by rw [h3 q j z] at e; cases e), fun q hq => by funext j; exact (a.2.2 q hq).2.1 j (h4 q j), fun q hq e => (a.2.2 q hq).2.2.2.1 (fun z => by rw [h2 q z] at e; cases e)⟩
end
/-- the sets speak of the first 122 cells alone -/
def LOW (eA eR : Nat → Prop) (eF eG : Nat → Nat → Prop) : Prop := (∀ q, eA q → q < 122) ∧ (∀ q, eR q → q < 122) ∧ (∀ q j, eF q j → q < 122) ∧ (∀ q j, eG q j → q < 122)
/-! a shelf: its form, its cases, laws, clauses, as the reference's slot b has them -/
def SHP (h : av_H) (o : Nat) : Prop := hK h o = (5, 0) ∧ hG h o 0 = some (o + 1) ∧ hG h o 1 = some (o + 2) ∧ hG h o 2 = some (o + 11) ∧ hK h (o + 1) = (30, 16) ∧ hK h (o + 2) = (32, 8) ∧ hK h (o + 11) = (32, 6) ∧ (∀ i, i < 8 → hR h (o + 2) i = some (o + 3 + i) ∧ hK h (o + 3 + i) = (20, 14)) ∧ (∀ i, i < 6 → hR h (o + 11) i = some (o + 12 + i) ∧ hK h (o + 12 + i) = (20, 14))
/-- a case of the class in its place -/
def CC (h : av_H) (v : Option Nat) (t c s : Nat) (f : Nat → Int) : Prop := v = some t ∧ CX h t c s f ∧ FV s f ∧ SD s f ∧ 122 ≤ t ∧ 122 ≤ c ∧ 1 ≤ s
def CS (h : av_H) (A : Nat → Nat → Int) (o b i : Nat) : Prop := ∃ t c s f, CC h (hR h (o + 1) i) t c s f ∧ A 81 (16 * b + i) = (s : Int) ∧ ∀ j, j < s → RY (rwA A (192 * b + 12 * i + j)) f (j * 21)
def CW (h : av_H) (o i : Nat) : Prop := hR h (o + 1) i = none ∨ ∃ t c s f, CC h (hR h (o + 1) i) t c s f
def LW (h : av_H) (A : Nat → Nat → Int) (o b l : Nat) : Prop := (∀ k, k < 13 → hA h (o + 3 + l) k = if A 93 (196 * b + 14 * l + k) = -2 then av_plain k else A 93 (196 * b + 14 * l + k)) ∧ hA h (o + 3 + l) 13 = A 93 (196 * b + 14 * l + 13)
def QW (h : av_H) (A : Nat → Nat → Int) (o b c : Nat) : Prop := ∀ k, k < 14 → hA h (o + 12 + c) k = A 93 (196 * b + 112 + 14 * c + k)
def SLn (h : av_H) (A : Nat → Nat → Int) (o b : Nat) : Prop := (hF h o 3 = A 78 b ∧ hF h o 4 = A 79 b ∧ hF h o 5 = A 80 b) ∧ (0 ≤ hF h o 3 ∧ hF h o 3 ≤ 16) ∧ (0 ≤ hF h o 4 ∧ hF h o 4 ≤ 8) ∧ (0 ≤ hF h o 5 ∧ hF h o 5 ≤ 6)
def SLr (h : av_H) (o : Nat) : Prop := (∀ i, i < 16 → CW h o i) ∧ (∀ l, l < 8 → ∀ k, -2 ≤ hA h (o + 3 + l) k ∧ hA h (o + 3 + l) k ≤ 999) ∧ (∀ c, c < 6 → ∀ k, -2 ≤ hA h (o + 12 + c) k ∧ hA h (o + 12 + c) k ≤ 999)
def SL (h : av_H) (A : Nat → Nat → Int) (o b : Nat) : Prop := SLn h A o b ∧ SLr h o ∧ (∀ i : Nat, i < 16 → (i : Int) < hF h o 3 → CS h A o b i) ∧ (∀ l : Nat, l < 8 → (l : Int) < hF h o 4 → LW h A o b l) ∧ (∀ c : Nat, c < 6 → (c : Int) < hF h o 5 → QW h A o b c)
/-- the reference's slot b is the same -/
def AGB (b : Nat) (A A' : Nat → Nat → Int) : Prop := (A' 78 b = A 78 b ∧ A' 79 b = A 79 b ∧ A' 80 b = A 80 b) ∧ (∀ i, i < 16 → A' 81 (16 * b + i) = A 81 (16 * b + i)) ∧ (∀ i, i < 192 → ∀ o, o < 19 → rwA A' (192 * b + i) o = rwA A (192 * b + i) o) ∧ (∀ k, k < 196 → A' 93 (196 * b + k) = A 93 (196 * b + k))
theorem CS_ag {h : av_H} {A A' : Nat → Nat → Int} {o b i : Nat} (x : CS h A o b i) (hi : i < 16) (e1 : A' 81 (16 * b + i) = A 81 (16 * b + i)) (e2 : ∀ j, j < 12 → ∀ q, q < 19 → rwA A' (192 * b + 12 * i + j) q = rwA A (192 * b + 12 * i + j) q) : CS h A' o b i := by
  obtain ⟨t, c, s, f, x1, x2, x3⟩ := x
  have s12 : s ≤ 12 := x1.2.2.1.1
  exact ⟨t, c, s, f, x1, e1.trans x2, fun j hj => ry_eq (x3 j hj) (e2 j (by omega)) (fun _ _ => rfl)⟩
theorem LW_ag {h : av_H} {A A' : Nat → Nat → Int} {o b l : Nat} (x : LW h A o b l) (e : ∀ k, k < 14 → A' 93 (196 * b + 14 * l + k) = A 93 (196 * b + 14 * l + k)) : LW h A' o b l := ⟨fun k hk => by rw [e k (by omega)]; exact x.1 k hk, by rw [e 13 (by omega)]; exact x.2⟩
theorem QW_ag {h : av_H} {A A' : Nat → Nat → Int} {o b c : Nat} (x : QW h A o b c) (e : ∀ k, k < 14 → A' 93 (196 * b + 112 + 14 * c + k) = A 93 (196 * b + 112 + 14 * c + k)) : QW h A' o b c := fun k hk => by rw [e k hk]; exact x k hk
theorem SL_ag {h : av_H} {A A' : Nat → Nat → Int} {o b : Nat} (x : SL h A o b) (e : AGB b A A') : SL h A' o b := by
  obtain ⟨x1, x2, x3, x4, x5⟩ := x
  refine ⟨⟨⟨x1.1.1.trans e.1.1.symm, x1.1.2.1.trans e.1.2.1.symm, x1.1.2.2.trans e.1.2.2.symm⟩, x1.2⟩, x2, fun i hi h1 => CS_ag (x3 i hi h1) hi (e.2.1 i hi) (fun j hj q hq => ?_), fun l hl h1 => LW_ag (x4 l hl h1) (fun k hk => ?_), fun c hc h1 => QW_ag (x5 c hc h1) (fun k hk => ?_)⟩
  · rw [show 192 * b + 12 * i + j = 192 * b + (12 * i + j) by omega]
    exact e.2.2.1 (12 * i + j) (by omega) q hq
  · rw [show 196 * b + 14 * l + k = 196 * b + (14 * l + k) by omega]
    exact e.2.2.2 (14 * l + k) (by omega)
  · rw [show 196 * b + 112 + 14 * c + k = 196 * b + (112 + 14 * c + k) by omega]
    exact e.2.2.2 (112 + 14 * c + k) (by omega)
section
variable {eA eR : Nat → Prop} {eF eG : Nat → Nat → Prop} {g h : av_H} {n m : Nat}
theorem CC_fq {v : Option Nat} {t c s : Nat} {f : Nat → Int} (G : av_Gd g) (w : LOW eA eR eF eG) (F : FQ eA eR eF eG g h n m) (x : CC g v t c s f) : CC h v t c s f := by
  obtain ⟨y1, ⟨o1, o2, o3, o4, o5, o6⟩, y3, y4, y5, y6, y7⟩ := x
  have lt := F.2.2 t (gd_lt G o1 (by decide))
  have lc := F.2.2 c (gd_lt G o5 (by decide))
  have nF : ∀ j, ¬ eF t j := fun j z => by have := w.2.2.1 t j z; omega
  have nG : ∀ j, ¬ eG t j := fun j z => by have := w.2.2.2 t j z; omega
  have nA : ¬ eA c := fun z => by have := w.1 c z; omega
  exact ⟨y1, ⟨lt.1.trans o1, (lt.2.2.2.2 1 (nF 1)).trans o2, (lt.2.2.2.2 3 (nF 3)).trans o3, (lt.2.1 0 (nG 0)).trans o4, lc.1.trans o5, (lc.2.2.1 nA).trans o6⟩, y3, y4, y5, y6, y7⟩
theorem CS_fq {A : Nat → Nat → Int} {o b i : Nat} (G : av_Gd g) (w : LOW eA eR eF eG) (F : FQ eA eR eF eG g h n m) (e : hR h (o + 1) i = hR g (o + 1) i) (x : CS g A o b i) : CS h A o b i := by
  obtain ⟨t, c, s, f, x1, x2⟩ := x
  exact ⟨t, c, s, f, by rw [e]; exact CC_fq G w F x1, x2⟩
theorem CW_fq {o i : Nat} (G : av_Gd g) (w : LOW eA eR eF eG) (F : FQ eA eR eF eG g h n m) (e : hR h (o + 1) i = hR g (o + 1) i) (x : CW g o i) : CW h o i := by
  rcases x with x | ⟨t, c, s, f, x1⟩
  · exact Or.inl (e.trans x)
  · exact Or.inr ⟨t, c, s, f, by rw [e]; exact CC_fq G w F x1⟩
/-- a shelf of which nothing changed -/
theorem SL_fq {A : Nat → Nat → Int} {o b : Nat} (G : av_Gd g) (w : LOW eA eR eF eG) (F : FQ eA eR eF eG g h n m) (l : o + 18 ≤ g.1) (nF : ∀ j, ¬ eF o j) (nR : ¬ eR (o + 1)) (nA : ∀ j, 3 ≤ j → j < 18 → ¬ eA (o + j)) (x : SL g A o b) : SL h A o b := by
  obtain ⟨x1, ⟨y1, y2, y3⟩, x3, x4, x5⟩ := x
  have fo := F.2.2 o (by omega)
  have f3 := fo.2.2.2.2 3 (nF 3)
  have f4 := fo.2.2.2.2 4 (nF 4)
  have f5 := fo.2.2.2.2 5 (nF 5)
  have er : hR h (o + 1) = hR g (o + 1) := (F.2.2 (o + 1) (by omega)).2.2.2.1 nR
  have ea : ∀ j, 3 ≤ j → j < 18 → hA h (o + j) = hA g (o + j) := fun j h1 h2 => (F.2.2 (o + j) (by omega)).2.2.1 (nA j h1 h2)
  refine ⟨?_, ⟨fun i hi => CW_fq G w F (congrFun er i) (y1 i hi), fun l hl k => ?_, fun c hc k => ?_⟩, fun i hi h1 => CS_fq G w F (congrFun er i) (x3 i hi (by rw [← f3]; exact h1)), fun l hl h1 => ?_, fun c hc h1 => ?_⟩
  · unfold SLn at x1 ⊢
    rw [f3, f4, f5]
    exact x1
  · rw [show o + 3 + l = o + (3 + l) by omega, ea (3 + l) (by omega) (by omega), show o + (3 + l) = o + 3 + l by omega]
    exact y2 l hl k
  · rw [show o + 12 + c = o + (12 + c) by omega, ea (12 + c) (by omega) (by omega), show o + (12 + c) = o + 12 + c by omega]
    exact y3 c hc k
  · have z := x4 l hl (by rw [← f4]; exact h1)
    have e1 : hA h (o + 3 + l) = hA g (o + 3 + l) := by
      rw [show o + 3 + l = o + (3 + l) by omega]
      exact ea (3 + l) (by omega) (by omega)
    unfold LW at z ⊢
    rw [e1]
    exact z
  · have z := x5 c hc (by rw [← f5]; exact h1)
    have e1 : hA h (o + 12 + c) = hA g (o + 12 + c) := by
      rw [show o + 12 + c = o + (12 + c) by omega]
      exact ea (12 + c) (by omega) (by omega)
    unfold QW at z ⊢
    rw [e1]
    exact z
theorem SHP_fq {o : Nat} (F : FQ eA eR eF eG g h n m) (l : o + 18 ≤ g.1) (nG : ∀ j, ¬ eG o j) (nR : ¬ eR (o + 2) ∧ ¬ eR (o + 11)) (x : SHP g o) : SHP h o := by
  obtain ⟨x1, x2, x3, x4, x5, x6, x7, x8, x9⟩ := x
  have fk : ∀ j, j < 18 → hK h (o + j) = hK g (o + j) := fun j hj => (F.2.2 (o + j) (by omega)).1
  have fo := F.2.2 o (by omega)
  refine ⟨fo.1.trans x1, (fo.2.1 0 (nG 0)).trans x2, (fo.2.1 1 (nG 1)).trans x3, (fo.2.1 2 (nG 2)).trans x4, (fk 1 (by omega)).trans x5, (fk 2 (by omega)).trans x6, (fk 11 (by omega)).trans x7, fun i hi => ⟨?_, ?_⟩, fun i hi => ⟨?_, ?_⟩⟩
  · rw [(F.2.2 (o + 2) (by omega)).2.2.2.1 nR.1]; exact (x8 i hi).1
  · rw [show o + 3 + i = o + (3 + i) by omega, fk (3 + i) (by omega), show o + (3 + i) = o + 3 + i by omega]; exact (x8 i hi).2
  · rw [(F.2.2 (o + 11) (by omega)).2.2.2.1 nR.2]; exact (x9 i hi).1
  · rw [show o + 12 + i = o + (12 + i) by omega, fk (12 + i) (by omega), show o + (12 + i) = o + 12 + i by omega]; exact (x9 i hi).2
end
/-- the images: each a shelf of its own -/
def XI (h : av_H) (A : Nat → Nat → Int) : Prop := (0 ≤ hF h 0 7 ∧ hF h 0 7 ≤ 4) ∧ hF h 77 62 = hF h 0 7 ∧ ∀ i : Nat, i < 4 → (i : Int) < hF h 0 7 → ∃ o, hR h 21 i = some o ∧ 122 ≤ o ∧ o + 18 ≤ h.1 ∧ SHP h o ∧ SL h A o (i + 1)
theorem XI_fq {eA eR : Nat → Prop} {eF eG : Nat → Nat → Prop} {g h : av_H} {n m : Nat} {A : Nat → Nat → Int} (G : av_Gd g) (L : LY g) (w : LOW eA eR eF eG) (F : FQ eA eR eF eG g h n m) (n07 : ¬ eF 0 7) (n77 : ¬ eF 77 62) (n21 : ¬ eR 21) (x : XI g A) : XI h A := by
  obtain ⟨x1, x2, x3⟩ := x
  have f0 := (F.2.2 0 (ly_lt G L (by omega))).2.2.2.2 7 n07
  have f7 := (F.2.2 77 (ly_lt G L (by omega))).2.2.2.2 62 n77
  have fr := (F.2.2 21 (ly_lt G L (by omega))).2.2.2.1 n21
  unfold XI
  rw [f0, f7, fr]
  refine ⟨x1, x2, fun i hi h1 => ?_⟩
  obtain ⟨o, y1, y2, y3, y4, y5⟩ := x3 i hi h1
  refine ⟨o, y1, y2, by rw [F.1]; omega, SHP_fq F y3 (fun j z => ?_) ⟨fun z => ?_, fun z => ?_⟩ y4, SL_fq G w F y3 (fun j z => ?_) (fun z => ?_) (fun j h1 h2 z => ?_) y5⟩
  · have := w.2.2.2 _ _ z; omega
  · have := w.2.1 _ z; omega
  · have := w.2.1 _ z; omega
  · have := w.2.2.1 _ _ z; omega
  · have := w.2.1 _ z; omega
  · have := w.1 _ z; omega
theorem XI_ag {h : av_H} {A A' : Nat → Nat → Int} (x : XI h A) (e : ∀ i : Nat, i < 4 → (i : Int) < hF h 0 7 → AGB (i + 1) A A') : XI h A' := ⟨x.1, x.2.1, fun i hi h1 => by
  obtain ⟨o, y1, y2, y3, y4, y5⟩ := x.2.2 i hi h1
  exact ⟨o, y1, y2, y3, y4, SL_ag y5 (e i hi h1)⟩⟩
/-- the class's tape and its empty case -/
def KT (h : av_H) : Prop := (∃ lim t, CT (hA h 2) lim t (hA h 23) (hA h 25) h) ∧ (0 ≤ hF h 1 1 ∧ hF h 1 1 ≤ 900) ∧ (∀ j, 252 ≤ j → hA h 23 j = 0) ∧ CX h 74 76 0 (fun _ => 0)
/-- the tapes, the faults -/
def CP (h : av_H) : Prop := hA h 94 = hA h 2 ∧ hF h 77 17 = hF h 1 1 ∧ hF h 77 18 = hF h 0 8
def BK (h : av_H) : Prop := IC h ∧ KT h ∧ (∃ n a m, IMF n a m h) ∧ CP h ∧ SL h (hA h) 3 0 ∧ XI h (hA h)
end
section
/-! LOOKS KEEP THE BOOK -/
def lkA (a : Nat) : Prop := sA a = true ∨ mA a = true
def lkF (o f : Nat) : Prop := sF o f = true ∨ mF o f = true
def lkG (o f : Nat) : Prop := sG o f = true
theorem sA_lt {a : Nat} (e : sA a = true) : a ≤ 72 := by
  by_cases h : a ≤ 72
  · exact h
  · have : sA a = false := by simp only [sA, nble (show 31 < a by omega), nble (show 46 < a by omega), nble (show 59 < a by omega), nble (show 72 < a by omega), Bool.and_false, Bool.or_false]
    rw [this] at e; cases e
theorem mA_lt {a : Nat} (e : mA a = true) : 95 ≤ a ∧ a ≤ 121 := by
  simp only [mA, Bool.and_eq_true] at e
  exact ⟨Nat.le_of_ble_eq_true e.1, Nat.le_of_ble_eq_true e.2⟩
theorem sF_lt {o f : Nat} (e : sF o f = true) : o = 26 ∨ o = 35 ∨ o = 48 ∨ o = 61 := by
  by_cases h : o = 26 ∨ o = 35 ∨ o = 48 ∨ o = 61
  · exact h
  · have : sF o f = false := by simp only [sF, sB, nbeq (show o ≠ 26 by omega), nbeq (show o ≠ 35 by omega), nbeq (show o ≠ 48 by omega), nbeq (show o ≠ 61 by omega), Bool.false_and, Bool.or_false]
    rw [this] at e; cases e
theorem mF_lt {o f : Nat} (e : mF o f = true) : o = 77 := by
  simp only [mF, Bool.and_eq_true] at e
  exact Nat.eq_of_beq_eq_true e.1
theorem sG_lt {o f : Nat} (e : sG o f = true) : o = 35 ∨ o = 48 ∨ o = 61 := by
  by_cases h : o = 35 ∨ o = 48 ∨ o = 61
  · exact h
  · have : sG o f = false := by simp only [sG, sB, nbeq (show o ≠ 35 by omega), nbeq (show o ≠ 48 by omega), nbeq (show o ≠ 61 by omega), Bool.false_and, Bool.or_false]
    rw [this] at e; cases e
theorem lk_low : LOW lkA nun1 lkF lkG := by
  refine ⟨fun q e => ?_, fun q e => e.elim, fun q j e => ?_, fun q j e => ?_⟩
  · rcases e with e | e
    · have := sA_lt e; omega
    · have := mA_lt e; omega
  · rcases e with e | e
    · have := sF_lt e; omega
    · have := mF_lt e; omega
  · have := sG_lt e; omega
section
variable {g h : av_H}
theorem FQ_Fr (F : Fr g h) : FQ lkA nun1 lkF lkG g h 0 0 := ⟨F.1, F.2.1, fun q _ => ⟨congrFun F.2.2.1 q, fun j e => F.2.2.2.2.1 q j (by cases z : sG q j with | false => rfl | true => exact absurd z e), fun e => F.2.2.2.2.2.2 q (by cases z : sA q with | false => rfl | true => exact absurd (Or.inl z) e), fun _ => congrFun F.2.2.2.1 q, fun j e => F.2.2.2.2.2.1 q j (by cases z : sF q j with | false => rfl | true => exact absurd (Or.inl z) e)⟩⟩
theorem FQ_FM (F : FM g h) : FQ lkA nun1 lkF lkG g h 0 0 := ⟨F.1, F.2.1, fun q _ => ⟨congrFun F.2.2.1 q, fun j _ => congrFun (congrFun F.2.2.2.2.1 q) j, fun e => F.2.2.2.2.2.2 q (by cases z : mA q with | false => rfl | true => exact absurd (Or.inr z) e), fun _ => congrFun F.2.2.2.1 q, fun j e => F.2.2.2.2.2.1 q j (by cases z : mF q j with | false => rfl | true => exact absurd (Or.inr z) e)⟩⟩
/-- the reference's part is the same -/
theorem IMF_eq {n a m : Int} (L : LY h) (eA : ∀ q, 78 ≤ q → q ≤ 121 → hA h q = hA g q) (eF : ∀ k, mF 77 k = true → hF h 77 k = hF g 77 k) (x : IMF n a m g) : IMF n a m h := by
  obtain ⟨⟨⟨_, x2, x3, x4, x5⟩, x6⟩, x7, x8, x9⟩ := x
  refine ⟨⟨⟨L, MV_A x2 (fun q h1 h2 => eA q (by omega) (by omega)), fun q h1 h2 j => ?_, ?_, ?_⟩, WR_A x6 (eA 96 (by omega) (by omega)) (eA 100 (by omega) (by omega))⟩, (eF 27 rfl).trans x7, (eF 28 rfl).trans x8, (eF 29 rfl).trans x9⟩
  · rw [eA q (by omega) (by omega)]; exact x3 q h1 h2 j
  · unfold AK at x4 ⊢
    rw [eF 28 rfl, eF 29 rfl, eA 108 (by omega) (by omega)]
    exact x4
  · unfold NF at x5 ⊢
    rw [eF 27 rfl, eF 50 rfl, eF 51 rfl, eF 52 rfl]
    exact x5
theorem IMF_Fr {n a m : Int} (L : LY g) (F : Fr g h) (x : IMF n a m g) : IMF n a m h := IMF_eq (LY_fr L F) (fun q h1 _ => F.2.2.2.2.2.2 q (by cases z : sA q with | false => rfl | true => exact absurd (sA_lt z) (by omega))) (fun k _ => F.2.2.2.2.2.1 77 k rfl) x
/-- the class's part is the same -/
theorem IC_eq (L : LY h) (eK : ∀ q, hK h q = hK g q) (eA : ∀ q, q < 77 ∨ 122 ≤ q → hA h q = hA g q) (eF : ∀ q k, q ≠ 77 → hF h q k = hF g q k) (eG : ∀ q, hG h q = hG g q) (eR : ∀ q, hR h q = hR g q) (x : IC g) : IC h := by
  obtain ⟨x1, x2, x3, x4, x5, x6⟩ := x
  have co : ∀ {t c s : Nat} {cb : Int}, CO g t c s cb → CO h t c s cb := fun {t c s cb} o => by
    obtain ⟨o1, o2, o3, o4, o5, o6, o7, o8, o9⟩ := o
    have e77 : t ≠ 77 := fun z => by rw [z, x1.1 77 rfl] at o1; cases o1
    refine ⟨(eK t).trans o1, (eF t 1 e77).trans o2, o3, (eF t 3 e77).trans o4, o5, (congrFun (eG t) 0).trans o6, (eK c).trans o7, o8, ?_⟩
    rw [eA c (by omega)]
    exact o9
  refine ⟨L, fun a ha j => ?_, fun i hi => ?_, ?_, ?_, fun b hb => ?_⟩
  · have h77 : a < 77 := by
      have h1 := rwc_lt ha
      by_cases h2 : a < 77
      · exact h2
      · have : rwc a = false := by simp only [rwc, nble (show 13 < a by omega), nble (show 20 < a by omega), nbeq (show a ≠ 25 by omega), nbeq (show a ≠ 30 by omega), nbeq (show a ≠ 47 by omega), nbeq (show a ≠ 60 by omega), nbeq (show a ≠ 73 by omega), Bool.and_false, Bool.or_false]
        rw [this] at ha; cases ha
    rw [eA a (Or.inl h77)]
    exact x2 a ha j
  · rw [eR 4]
    rcases x3 i hi with e | ⟨t, c, s, cb, e, o⟩
    · exact Or.inl e
    · exact Or.inr ⟨t, c, s, cb, e, co o⟩
  · unfold CN at x4 ⊢
    rw [eF 3 3 (by decide), eF 3 4 (by decide), eF 3 5 (by decide)]
    exact x4
  · unfold HD at x5 ⊢
    rw [eF 26 9 (by decide), eF 26 10 (by decide)]
    exact x5
  · obtain ⟨y1, y2, t, c, s, cb, r, z1, z2, z3, z4, z5⟩ := x6 b hb
    have b77 : b ≠ 77 := by rcases hb with e | e | e <;> omega
    rw [eF b 13 b77, eF b 14 b77, eG b]
    exact ⟨y1, y2, t, c, s, cb, r, z1, co z2, z3, (eK r).trans z4, z5⟩
theorem IC_FM (F : FM g h) (x : IC g) : IC h := IC_eq (LY_fm x.1 F) (fun q => congrFun F.2.2.1 q) (fun q hq => F.2.2.2.2.2.2 q (by cases z : mA q with | false => rfl | true => exact absurd (mA_lt z) (by omega))) (fun q k hq => F.2.2.2.2.2.1 q k (by simp only [mF, nbeq hq, Bool.false_and])) (fun q => congrFun F.2.2.2.2.1 q) (fun q => congrFun F.2.2.2.1 q) x
/-- the tape of the class is the same -/
theorem KT_fq {eA eR : Nat → Prop} {eF eG : Nat → Nat → Prop} {n m : Nat} (G : av_Gd g) (L : LY g) (L' : LY h) (F : FQ eA eR eF eG g h n m) (n2 : ¬ eA 2) (n23 : ¬ eA 23) (n25 : ¬ eA 25) (n76 : ¬ eA 76) (n1 : ∀ j, ¬ eF 1 j) (n74 : ∀ j, ¬ eF 74 j) (g74 : ∀ j, ¬ eG 74 j) (x : KT g) : KT h := by
  obtain ⟨⟨lim, t, C⟩, x2, x3, o1, o2, o3, o4, o5, o6⟩ := x
  have l : ∀ {q : Nat}, q < 122 → q < g.1 := fun hq => ly_lt G L hq
  have e2 := (F.2.2 2 (l (by omega))).2.2.1 n2
  have e23 := (F.2.2 23 (l (by omega))).2.2.1 n23
  have e25 := (F.2.2 25 (l (by omega))).2.2.1 n25
  have f1 : ∀ j, hF h 1 j = hF g 1 j := fun j => (F.2.2 1 (l (by omega))).2.2.2.2 j (n1 j)
  have f74 := F.2.2 74 (l (by omega))
  have f76 := F.2.2 76 (l (by omega))
  refine ⟨⟨lim, t, ?_⟩, by rw [f1 1]; exact x2, by rw [e23]; exact x3, f74.1.trans o1, (f74.2.2.2.2 1 (n74 1)).trans o2, (f74.2.2.2.2 3 (n74 3)).trans o3, (f74.2.1 0 (g74 0)).trans o4, f76.1.trans o5, (f76.2.2.1 n76).trans o6⟩
  obtain ⟨_, _, c3, c4, c5, c6, c7, c8, _, _, c11, c12, c13⟩ := C
  rw [e2, e23, e25]
  exact ⟨L', e2, c3, (f1 2).trans c4, (f1 3).trans c5, (f1 4).trans c6, (f1 5).trans c7, (f1 6).trans c8, e23, e25, c11, c12, c13⟩
theorem AGB_eq {A A' : Nat → Nat → Int} (b : Nat) (e : ∀ a, 78 ≤ a → a ≤ 93 → A' a = A a) : AGB b A A' := by
  refine ⟨⟨by rw [e 78 (by omega) (by omega)], by rw [e 79 (by omega) (by omega)], by rw [e 80 (by omega) (by omega)]⟩, fun i _ => by rw [e 81 (by omega) (by omega)], fun i _ o ho => ?_, fun k _ => by rw [e 93 (by omega) (by omega)]⟩
  have := vq_in o ho
  show A' (vq o) _ = A (vq o) _
  rw [e (vq o) (by omega) (by omega)]
theorem BK_look (G : av_Gd g) (B : BK g) (F : FQ lkA nun1 lkF lkG g h 0 0) (I : IC h) (M : ∃ n a m, IMF n a m h) : BK h := by
  obtain ⟨b1, b2, b3, b4, b5, b6⟩ := B
  have L := b1.1
  have l : ∀ {q : Nat}, q < 122 → q < g.1 := fun hq => ly_lt G L hq
  have nA : ∀ {q : Nat}, (72 < q ∧ q < 95) ∨ (∃ _ : sA q = false, q < 95) → ¬ lkA q := fun {q} hq z => by
    rcases z with z | z
    · rcases hq with h1 | ⟨h1, _⟩
      · have := sA_lt z; omega
      · rw [h1] at z; cases z
    · have := mA_lt z
      rcases hq with h1 | ⟨_, h1⟩ <;> omega
  have nF : ∀ {q j : Nat}, q ≠ 26 → q ≠ 35 → q ≠ 48 → q ≠ 61 → q ≠ 77 → ¬ lkF q j := fun h1 h2 h3 h4 h5 z => by
    rcases z with z | z
    · have := sF_lt z; omega
    · have := mF_lt z; omega
  have ea : ∀ a, 78 ≤ a → a ≤ 94 → hA h a = hA g a := fun a h1 h2 => (F.2.2 a (l (by omega))).2.2.1 (nA (Or.inl (by omega)))
  have l18 : 3 + 18 ≤ g.1 := by have := l (q := 100) (by omega); omega
  refine ⟨I, KT_fq G L I.1 F (nA (Or.inr ⟨rfl, by omega⟩)) (nA (Or.inr ⟨rfl, by omega⟩)) (nA (Or.inr ⟨rfl, by omega⟩)) (nA (Or.inl (by omega))) (fun j => nF (by decide) (by decide) (by decide) (by decide) (by decide)) (fun j => nF (by decide) (by decide) (by decide) (by decide) (by decide)) (fun j z => by have := sG_lt z; omega) b2, M, ?_, ?_, ?_⟩
  · obtain ⟨c1, c2, c3⟩ := b4
    have nF7 : ∀ j, mF 77 j = false → ¬ lkF 77 j := fun j hj z => by
      rcases z with z | z
      · have := sF_lt z; omega
      · rw [hj] at z; cases z
    refine ⟨?_, ?_, ?_⟩
    · rw [ea 94 (by omega) (by omega), (F.2.2 2 (l (by omega))).2.2.1 (nA (Or.inr ⟨rfl, by omega⟩))]
      exact c1
    · rw [(F.2.2 77 (l (by omega))).2.2.2.2 17 (nF7 17 rfl), (F.2.2 1 (l (by omega))).2.2.2.2 1 (nF (by decide) (by decide) (by decide) (by decide) (by decide))]
      exact c2
    · rw [(F.2.2 77 (l (by omega))).2.2.2.2 18 (nF7 18 rfl), (F.2.2 0 (l (by omega))).2.2.2.2 8 (nF (by decide) (by decide) (by decide) (by decide) (by decide))]
      exact c3
  · refine SL_ag (SL_fq G lk_low F l18 (fun j => nF (by decide) (by decide) (by decide) (by decide) (by decide)) (fun z => z) (fun j h1 h2 => nA (Or.inr ⟨?_, by omega⟩)) b5) (AGB_eq 0 (fun a h1 h2 => ea a h1 (by omega)))
    have hh : ∀ j, j < 18 → sA (3 + j) = false := by decide
    exact hh j h2
  · have nF7 : ¬ lkF 77 62 := fun z => by
      rcases z with z | z
      · have := sF_lt z; omega
      · cases z
    exact XI_ag (XI_fq G L lk_low F (nF (by decide) (by decide) (by decide) (by decide) (by decide)) nF7 (fun z => z) b6) (fun i _ _ => AGB_eq (i + 1) (fun a h1 h2 => ea a h1 (by omega)))
/-- a look of the class, then one of the reference -/
theorem BK_Fr (G : av_Gd g) (B : BK g) (F : Fr g h) (I : IC h) : BK h := by
  obtain ⟨n, a, m, x⟩ := B.2.2.1
  exact BK_look G B (FQ_Fr F) I ⟨n, a, m, IMF_Fr B.1.1 F x⟩
theorem BK_FM {n a m : Int} (G : av_Gd g) (B : BK g) (F : FM g h) (x : IMF n a m h) : BK h := BK_look G B (FQ_FM F) (IC_FM F B.1) ⟨n, a, m, x⟩
end
end
