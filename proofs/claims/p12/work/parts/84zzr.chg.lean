/-! LOST, WIRED, exactly: the class makes the changed case -/
set_option maxRecDepth 100000 in
set_option maxHeartbeats 4000000 in
theorem ct_32x {h : av_H} (L : LY h) {t c s : Nat} {cb : Int} (o : CO h t c s cb) (k : Int) (kr : 0 ≤ k ∧ k < (s : Int)) {Q : Option av_V → av_H → Prop} (hq : ∀ h' t' c' u', AL h h' 3 (4 + 42 * s) → CO h' t' c' s (cbv u' s) → hA h' c' = u' → CHG (lsx (hA h c) (Int.toNat k)) s u' → Q (some (.inr (.inr (.inl (some t'))))) h') : av_wp none cd_32 0 [some (.inr (.inr (.inl (some (t))))), some (.inl k), none] [] h Q := by
  refine gd_of (fun hg => ?_)
  have l122 : 121 < h.1 := ly_lt hg L (by omega)
  have s12 := co_s12 o
  have tl : t < h.1 := gd_lt hg (co_kt o) (by decide)
  have fin : ∀ (g : av_H), MH h g s → hA g h.1 = lsx (hA h c) (Int.toNat k) → av_wp none cd_32 41 [some (.inr (.inr (.inl (some (t))))), some (.inl k), some (.inr (.inr (.inl (some h.1))))] [] g Q := by
    intro g M eA
    refine av_wp_seq 4 (pc' := 47) (lv' := [some (.inr (.inr (.inl (some (t))))), some (.inl k), some (.inr (.inr (.inl (some h.1))))]) (st' := [.inr (.inr (.inl (some (t)))), .inr (.inr (.inl (some h.1))), .inr (.inr (.inl (some g.1))), .inr (.inr (.inl (some g.1)))]) (h' := av_newO 1 4 g) rfl ?_
    have om := CO_fb hg L o (AL_fb M.1)
    have h1 : g.1 = h.1 + 1 := M.1.1
    have kq : ∀ q, q ≠ g.1 → hK (av_newO 1 4 g) q = hK g q := fun q hq => if_neg hq
    have fq : hF (av_newO 1 4 g) t 1 = (s : Int) := by
      show av_u1 g.2.2.2.2.1 g.1 (fun _ => 0) t 1 = _
      rw [show av_u1 g.2.2.2.2.1 g.1 (fun _ => 0) t = g.2.2.2.2.1 t from if_neg (by omega)]
      exact co_s om
    refine wq_gi (p' := 50) rfl rfl (congrArg Prod.fst ((kq t (by omega)).trans (co_kt om))) rfl fq ?_
    refine wq_cv (p' := 53) (av_qc (.invokespecial 52) 27 2 1 1) 9 cd_27 [.inl (s : Int), .inr (.inr (.inl (some h.1)))] (g.1) 1 [some (.inr (.inr (.inl (some g.1)))), some (.inr (.inr (.inl (some h.1)))), some (.inl (s : Int)), none, none, none, none, none, none] rfl rfl rfl pp_27 rfl rfl rfl (congrArg Prod.fst (show hK (av_newO 1 4 g) g.1 = (1, 0) from if_pos rfl)) rfl rfl rfl rfl ?_
    refine ct_27 (n := 21 * s) (s := s) (show hK (av_newO 1 4 g) g.1 = (1, 0) from if_pos rfl) (by show g.1 ≠ g.1 + 1; omega) (by show h.1 ≠ g.1 + 1; omega) ((kq h.1 (by omega)).trans M.2.1) s12 (by omega) (by omega) (fun j hj => ⟨(M.2.2.1 j).1, (M.2.2.1 j).2, fun z1 z2 => ?_⟩) _ rfl (fun f h5 f1 f2 N5 => ?_)
    · have y := M.2.2.2 (j / 21) (j % 21 - 15) (by omega)
      rw [show 21 * (j / 21) + 15 + (j % 21 - 15) = j by omega] at y
      exact y
    · show av_wp _ cd_32 53 [some (.inr (.inr (.inl (some (t))))), some (.inl k), some (.inr (.inr (.inl (some h.1))))] [.inr (.inr (.inl (some g.1)))] h5 _
      obtain ⟨x5, a5⟩ := nc_cx N5
      refine av_wp_ret (v := some (.inr (.inr (.inl (some g.1))))) rfl rfl rfl ?_
      have fb : ∀ j, f j = hA g h.1 j ∨ f j = 0 := fun j => by
        by_cases e : j < 21 * s
        · exact Or.inl (f1 j e)
        · rcases f2 j (by omega) with w | w
          · exact Or.inr w
          · exact Or.inl w.2
      have b1 : ∀ j, -1 ≤ f j ∧ f j ≤ 100000 := fun j => by
        rcases fb j with e | e
        · rw [e]; exact M.2.2.1 j
        · rw [e]; omega
      have b2 : ∀ k j, j < 4 → f (21 * k + 15 + j) ≤ 16 := fun k j hj => by
        rcases fb (21 * k + 15 + j) with e | e
        · rw [e]; exact M.2.2.2 k j hj
        · rw [e]; omega
      obtain ⟨x1, x2, x3, x4, x6, x7⟩ := x5
      refine hq h5 g.1 (g.1 + 1) (ctn f s) (AL_eq (AL_tr M.1 a5) rfl (by omega)) ⟨x1, x2, s12, ?_, ?_, x4, x6, Or.inr (Or.inr (by omega)), ?_⟩ x7 ⟨f, rfl, fun j hj => ?_, fun j hj => ?_⟩
      · rw [x3]
        unfold cbv
        rw [cbf_ct]
      · have z := cbv_b (s := s) (f := f) (fun q _ o h1 h2 => by have := b2 q (o - 15) (by omega); rw [show 21 * q + 15 + (o - 15) = 21 * q + o by omega] at this; exact this)
        unfold cbv at z ⊢
        rw [cbf_ct]
        exact z
      · rw [x7]
        exact ctn_v2 b1 b2
      · have y := f1 j hj
        rw [show hA (av_newO 1 4 g) h.1 = hA g h.1 from rfl, eA] at y
        exact y
      · rcases f2 j hj with w | w
        · exact Or.inl w
        · have y := w.2
          rw [show hA (av_newO 1 4 g) h.1 = hA g h.1 from rfl, eA] at y
          exact Or.inr y
  refine av_wp_seq 1 (pc' := 1) (lv' := [some (.inr (.inr (.inl (some (t))))), some (.inl k), none]) (st' := [.inr (.inr (.inl (some (t))))]) (h' := h) rfl ?_
  refine wq_gr (p' := 4) rfl rfl (congrArg Prod.fst (co_kt o)) rfl (co_c o) ?_
  refine wq_cl (p' := 7) rfl rfl rfl (fun _ _ => rfl) rfl (co_kc o) ?_
  have M0 := MH_new o
  have e0 : hA (av_newN 20 (21 * s) (hA h c) h) h.1 = hA h c := newN_a
  generalize av_newN 20 (21 * s) (hA h c) h = g0 at M0 e0 ⊢
  have o0 := CO_fb hg L o (AL_fb M0.1)
  refine wq_ck (p' := 10) rfl rfl M0.2.1 ?_
  refine av_wp_seq 3 (pc' := 13) (lv' := [some (.inr (.inr (.inl (some (t))))), some (.inl k), some (.inr (.inr (.inl (some h.1))))]) (st' := [.inl k, .inr (.inr (.inl (some (t))))]) (h' := g0) rfl ?_
  refine wq_cv (p' := 16) (av_qc (.invokevirtual 40) 28 1 0 1) 2 cd_28 [.inl k] (t) 1 [some (.inr (.inr (.inl (some (t))))), some (.inl k)] rfl rfl rfl pp_28 rfl rfl rfl (congrArg Prod.fst (co_kt o0)) rfl rfl rfl rfl ?_
  refine ct_28 o0 k (by omega) (fun v p => ?_)
  show av_wp _ cd_32 16 [some (.inr (.inr (.inl (some (t))))), some (.inl k), some (.inr (.inr (.inl (some h.1))))] [.inl v] g0 _
  refine wq_k1 (p' := 19) rfl rfl ⟨by omega, by omega⟩ (fun c1 => ?_) (fun c1 => ?_)
  · have c1 : v = (0) := c1
    exfalso
    omega
  · have c1 : v ≠ (0) := c1
    refine av_wp_seq 9 (pc' := 30) (lv' := [some (.inr (.inr (.inl (some (t))))), some (.inl k), some (.inr (.inr (.inl (some h.1))))]) (st' := [.inl (0), .inl (k * (21) + (15) + (3)), .inr (.inr (.inl (some h.1)))]) (h' := g0) rfl ?_
    refine wq_as (p' := 31) rfl rfl M0.2.1 ⟨by omega, by omega, by omega⟩ ?_
    have M1 := MH_w (i := (k * (21) + (15) + (3)).toNat) (v := (0)) M0 (by omega)
    have e1 : hA (hwA g0 h.1 (k * (21) + (15) + (3)).toNat (0)) h.1 = av_u1 (hA h c) (k * (21) + (15) + (3)).toNat (0) := by rw [hA_wu, e0]
    generalize hwA g0 h.1 (k * (21) + (15) + (3)).toNat (0) = g1 at M1 e1 ⊢
    refine av_wp_seq 7 (pc' := 40) (lv' := [some (.inr (.inr (.inl (some (t))))), some (.inl k), some (.inr (.inr (.inl (some h.1))))]) (st' := [.inl (1), .inl (k * (21) + (19)), .inr (.inr (.inl (some h.1)))]) (h' := g1) rfl ?_
    refine wq_as (p' := 41) rfl rfl M1.2.1 ⟨by omega, by omega, by omega⟩ ?_
    refine fin _ (MH_w (i := (k * (21) + (19)).toNat) (v := (1)) M1 (by omega)) ?_
    rw [hA_wu, e1]
    funext j
    unfold lsx
    by_cases d : j = 21 * k.toNat + 19
    · rw [show (k * (21) + (19)).toNat = j by omega, u1_eq, if_neg (by omega), if_pos d]
    · rw [u1_ne (by omega)]
      by_cases b : j = 21 * k.toNat + 18
      · rw [show (k * (21) + (15) + (3)).toNat = j by omega, u1_eq, if_pos b]
      · rw [u1_ne (by omega), if_neg b, if_neg d]

set_option maxRecDepth 100000 in
set_option maxHeartbeats 4000000 in
theorem ct_33x {h : av_H} (L : LY h) {t c s : Nat} {cb : Int} (o : CO h t c s cb) (k : Int) (kr : 0 ≤ k ∧ k < (s : Int)) {Q : Option av_V → av_H → Prop} (hq : ∀ h' t' c' u', AL h h' 3 (4 + 42 * s) → CO h' t' c' s (cbv u' s) → hA h' c' = u' → CHG (wix (hA h c) (Int.toNat k)) s u' → Q (some (.inr (.inr (.inl (some t'))))) h') : av_wp none cd_33 0 [some (.inr (.inr (.inl (some (t))))), some (.inl k), none, none] [] h Q := by
  refine gd_of (fun hg => ?_)
  have l122 : 121 < h.1 := ly_lt hg L (by omega)
  have s12 := co_s12 o
  have tl : t < h.1 := gd_lt hg (co_kt o) (by decide)
  have fin : ∀ (g : av_H), MH h g s → hA g h.1 = wix (hA h c) (Int.toNat k) → av_wp none cd_33 65 [some (.inr (.inr (.inl (some (t))))), some (.inl k), some (.inr (.inr (.inl (some h.1)))), some (.inl (k * (21)))] [] g Q := by
    intro g M eA
    refine av_wp_seq 4 (pc' := 71) (lv' := [some (.inr (.inr (.inl (some (t))))), some (.inl k), some (.inr (.inr (.inl (some h.1)))), some (.inl (k * (21)))]) (st' := [.inr (.inr (.inl (some (t)))), .inr (.inr (.inl (some h.1))), .inr (.inr (.inl (some g.1))), .inr (.inr (.inl (some g.1)))]) (h' := av_newO 1 4 g) rfl ?_
    have om := CO_fb hg L o (AL_fb M.1)
    have h1 : g.1 = h.1 + 1 := M.1.1
    have kq : ∀ q, q ≠ g.1 → hK (av_newO 1 4 g) q = hK g q := fun q hq => if_neg hq
    have fq : hF (av_newO 1 4 g) t 1 = (s : Int) := by
      show av_u1 g.2.2.2.2.1 g.1 (fun _ => 0) t 1 = _
      rw [show av_u1 g.2.2.2.2.1 g.1 (fun _ => 0) t = g.2.2.2.2.1 t from if_neg (by omega)]
      exact co_s om
    refine wq_gi (p' := 74) rfl rfl (congrArg Prod.fst ((kq t (by omega)).trans (co_kt om))) rfl fq ?_
    refine wq_cv (p' := 77) (av_qc (.invokespecial 52) 27 2 1 1) 9 cd_27 [.inl (s : Int), .inr (.inr (.inl (some h.1)))] (g.1) 1 [some (.inr (.inr (.inl (some g.1)))), some (.inr (.inr (.inl (some h.1)))), some (.inl (s : Int)), none, none, none, none, none, none] rfl rfl rfl pp_27 rfl rfl rfl (congrArg Prod.fst (show hK (av_newO 1 4 g) g.1 = (1, 0) from if_pos rfl)) rfl rfl rfl rfl ?_
    refine ct_27 (n := 21 * s) (s := s) (show hK (av_newO 1 4 g) g.1 = (1, 0) from if_pos rfl) (by show g.1 ≠ g.1 + 1; omega) (by show h.1 ≠ g.1 + 1; omega) ((kq h.1 (by omega)).trans M.2.1) s12 (by omega) (by omega) (fun j hj => ⟨(M.2.2.1 j).1, (M.2.2.1 j).2, fun z1 z2 => ?_⟩) _ rfl (fun f h5 f1 f2 N5 => ?_)
    · have y := M.2.2.2 (j / 21) (j % 21 - 15) (by omega)
      rw [show 21 * (j / 21) + 15 + (j % 21 - 15) = j by omega] at y
      exact y
    · show av_wp _ cd_33 77 [some (.inr (.inr (.inl (some (t))))), some (.inl k), some (.inr (.inr (.inl (some h.1)))), some (.inl (k * (21)))] [.inr (.inr (.inl (some g.1)))] h5 _
      obtain ⟨x5, a5⟩ := nc_cx N5
      refine av_wp_ret (v := some (.inr (.inr (.inl (some g.1))))) rfl rfl rfl ?_
      have fb : ∀ j, f j = hA g h.1 j ∨ f j = 0 := fun j => by
        by_cases e : j < 21 * s
        · exact Or.inl (f1 j e)
        · rcases f2 j (by omega) with w | w
          · exact Or.inr w
          · exact Or.inl w.2
      have b1 : ∀ j, -1 ≤ f j ∧ f j ≤ 100000 := fun j => by
        rcases fb j with e | e
        · rw [e]; exact M.2.2.1 j
        · rw [e]; omega
      have b2 : ∀ k j, j < 4 → f (21 * k + 15 + j) ≤ 16 := fun k j hj => by
        rcases fb (21 * k + 15 + j) with e | e
        · rw [e]; exact M.2.2.2 k j hj
        · rw [e]; omega
      obtain ⟨x1, x2, x3, x4, x6, x7⟩ := x5
      refine hq h5 g.1 (g.1 + 1) (ctn f s) (AL_eq (AL_tr M.1 a5) rfl (by omega)) ⟨x1, x2, s12, ?_, ?_, x4, x6, Or.inr (Or.inr (by omega)), ?_⟩ x7 ⟨f, rfl, fun j hj => ?_, fun j hj => ?_⟩
      · rw [x3]
        unfold cbv
        rw [cbf_ct]
      · have z := cbv_b (s := s) (f := f) (fun q _ o h1 h2 => by have := b2 q (o - 15) (by omega); rw [show 21 * q + 15 + (o - 15) = 21 * q + o by omega] at this; exact this)
        unfold cbv at z ⊢
        rw [cbf_ct]
        exact z
      · rw [x7]
        exact ctn_v2 b1 b2
      · have y := f1 j hj
        rw [show hA (av_newO 1 4 g) h.1 = hA g h.1 from rfl, eA] at y
        exact y
      · rcases f2 j hj with w | w
        · exact Or.inl w
        · have y := w.2
          rw [show hA (av_newO 1 4 g) h.1 = hA g h.1 from rfl, eA] at y
          exact Or.inr y
  refine av_wp_seq 1 (pc' := 1) (lv' := [some (.inr (.inr (.inl (some (t))))), some (.inl k), none, none]) (st' := [.inr (.inr (.inl (some (t))))]) (h' := h) rfl ?_
  refine wq_gr (p' := 4) rfl rfl (congrArg Prod.fst (co_kt o)) rfl (co_c o) ?_
  refine wq_cl (p' := 7) rfl rfl rfl (fun _ _ => rfl) rfl (co_kc o) ?_
  have M0 := MH_new o
  have e0 : hA (av_newN 20 (21 * s) (hA h c) h) h.1 = hA h c := newN_a
  generalize av_newN 20 (21 * s) (hA h c) h = g0 at M0 e0 ⊢
  have o0 := CO_fb hg L o (AL_fb M0.1)
  refine wq_ck (p' := 10) rfl rfl M0.2.1 ?_
  refine av_wp_seq 3 (pc' := 13) (lv' := [some (.inr (.inr (.inl (some (t))))), some (.inl k), some (.inr (.inr (.inl (some h.1)))), none]) (st' := [.inl k, .inr (.inr (.inl (some (t))))]) (h' := g0) rfl ?_
  refine wq_cv (p' := 16) (av_qc (.invokevirtual 40) 28 1 0 1) 2 cd_28 [.inl k] (t) 1 [some (.inr (.inr (.inl (some (t))))), some (.inl k)] rfl rfl rfl pp_28 rfl rfl rfl (congrArg Prod.fst (co_kt o0)) rfl rfl rfl rfl ?_
  refine ct_28 o0 k (by omega) (fun v p => ?_)
  show av_wp _ cd_33 16 [some (.inr (.inr (.inl (some (t))))), some (.inl k), some (.inr (.inr (.inl (some h.1)))), none] [.inl v] g0 _
  refine wq_k1 (p' := 19) rfl rfl ⟨by omega, by omega⟩ (fun c1 => ?_) (fun c1 => ?_)
  · have c1 : v = (0) := c1
    exfalso
    omega
  · have c1 : v ≠ (0) := c1
    refine av_wp_seq 9 (pc' := 29) (lv' := [some (.inr (.inr (.inl (some (t))))), some (.inl k), some (.inr (.inr (.inl (some h.1)))), some (.inl (k * (21)))]) (st' := [.inl (1), .inl (k * (21) + (4)), .inr (.inr (.inl (some h.1)))]) (h' := g0) rfl ?_
    refine wq_as (p' := 30) rfl rfl M0.2.1 ⟨by omega, by omega, by omega⟩ ?_
    have M1 := MH_w (i := (k * (21) + (4)).toNat) (v := (1)) M0 (by omega)
    have e1 : hA (hwA g0 h.1 (k * (21) + (4)).toNat (1)) h.1 = (av_u1 (hA h c) (k * (21) + (4)).toNat (1)) := by rw [hA_wu, e0]
    generalize hwA g0 h.1 (k * (21) + (4)).toNat (1) = g1 at M1 e1 ⊢
    refine av_wp_seq 7 (pc' := 38) (lv' := [some (.inr (.inr (.inl (some (t))))), some (.inl k), some (.inr (.inr (.inl (some h.1)))), some (.inl (k * (21)))]) (st' := [.inl (0), .inl (k * (21) + (7) + (1)), .inr (.inr (.inl (some h.1)))]) (h' := g1) rfl ?_
    refine wq_as (p' := 39) rfl rfl M1.2.1 ⟨by omega, by omega, by omega⟩ ?_
    have M2 := MH_w (i := (k * (21) + (7) + (1)).toNat) (v := (0)) M1 (by omega)
    have e2 : hA (hwA g1 h.1 (k * (21) + (7) + (1)).toNat (0)) h.1 = (av_u1 (av_u1 (hA h c) (k * (21) + (4)).toNat (1)) (k * (21) + (7) + (1)).toNat (0)) := by rw [hA_wu, e1]
    generalize hwA g1 h.1 (k * (21) + (7) + (1)).toNat (0) = g2 at M2 e2 ⊢
    refine av_wp_seq 7 (pc' := 47) (lv' := [some (.inr (.inr (.inl (some (t))))), some (.inl k), some (.inr (.inr (.inl (some h.1)))), some (.inl (k * (21)))]) (st' := [.inl (0), .inl (k * (21) + (7) + (2)), .inr (.inr (.inl (some h.1)))]) (h' := g2) rfl ?_
    refine wq_as (p' := 48) rfl rfl M2.2.1 ⟨by omega, by omega, by omega⟩ ?_
    have M3 := MH_w (i := (k * (21) + (7) + (2)).toNat) (v := (0)) M2 (by omega)
    have e3 : hA (hwA g2 h.1 (k * (21) + (7) + (2)).toNat (0)) h.1 = (av_u1 (av_u1 (av_u1 (hA h c) (k * (21) + (4)).toNat (1)) (k * (21) + (7) + (1)).toNat (0)) (k * (21) + (7) + (2)).toNat (0)) := by rw [hA_wu, e2]
    generalize hwA g2 h.1 (k * (21) + (7) + (2)).toNat (0) = g3 at M3 e3 ⊢
    refine av_wp_seq 12 (pc' := 62) (lv' := [some (.inr (.inr (.inl (some (t))))), some (.inl k), some (.inr (.inr (.inl (some h.1)))), some (.inl (k * (21)))]) (st' := [.inl (0), .inl (k * (21) + (15) + (4)), .inl (k * (21) + (15) + (1)), .inr (.inr (.inl (some h.1)))]) (h' := g3) rfl ?_
    refine wq_cs (p' := 65) (av_qc (.invokestatic 55) 221 4 2 10) 5 cd_221 [.inr (.inr (.inl (some h.1))), .inl (k * (21) + (15) + (1)), .inl (k * (21) + (15) + (4)), .inl (0)] [.inl (0), .inl (k * (21) + (15) + (4)), .inl (k * (21) + (15) + (1)), .inr (.inr (.inl (some h.1)))] [some (.inr (.inr (.inl (some h.1)))), some (.inl (k * (21) + (15) + (1))), some (.inl (k * (21) + (15) + (4))), some (.inl (0)), none] rfl rfl rfl pp_221 (fun _ => rfl) rfl rfl ?_
    refine ct_221 (n := 21 * s) (k * (21) + (15) + (1)).toNat (k * (21) + (15) + (4)).toNat (by omega) (by omega) M3.2.1 (by omega) (by omega) (by omega) ?_
    refine fin _ (MH_fil M3) ?_
    funext j
    rw [fil_s, e3]
    unfold wix
    by_cases d : 21 * k.toNat + 16 ≤ j ∧ j < 21 * k.toNat + 19
    · rw [if_pos (by omega), if_neg (by omega), if_pos (by omega)]
    · rw [if_neg (by omega)]
      by_cases b2 : j = 21 * k.toNat + 9
      · rw [show (k * (21) + (7) + (2)).toNat = j by omega, u1_eq, if_neg (by omega), if_pos (by omega)]
      · rw [u1_ne (by omega)]
        by_cases b1 : j = 21 * k.toNat + 8
        · rw [show (k * (21) + (7) + (1)).toNat = j by omega, u1_eq, if_neg (by omega), if_pos (by omega)]
        · rw [u1_ne (by omega)]
          by_cases b0 : j = 21 * k.toNat + 4
          · rw [show (k * (21) + (4)).toNat = j by omega, u1_eq, if_pos b0]
          · rw [u1_ne (by omega), if_neg b0, if_neg (by omega)]

set_option maxRecDepth 100000 in
set_option maxHeartbeats 4000000 in
theorem cx_122 {h : av_H} {U : Nat → Nat → Int} {S : Nat → Nat} {n : Int} {sr nd : Nat → Int} (C : CJ U S n sr nd h) {t c s : Nat} {cb : Int} (o : CO h t c s cb) {u : Nat → Int} (hu : hA h c = u) (m : Int) (qm : 0 ≤ m ∧ m ≤ 15) (mn : m ≤ n) (GM : ∀ k, k < s → -1 ≤ u (21 * k + 6) ∧ u (21 * k + 6) < m) (SE : ∀ ro bar : Nat → Int, (∀ k, 0 ≤ bar k ∧ bar k ≤ 1) → -1 ≤ ro 8 → SEA u ro bar s) (l : Int) (ql : -2147483648 ≤ l ∧ l ≤ 2147483647) (CR : CRT U S n (hF h 3 4) (fun k => hA h (6 + k))) (SU : SUA U S n (hF h 3 4) (fun k => hA h (6 + k)) sr) {Q : Option av_V → av_H → Prop} (hq0 : (cb = -1 ∨ l < 0 ∨ hF h 3 4 ≤ l) → Q (some (.inl (-2))) h) (hq1 : cb ≠ -1 → (0 ≤ l ∧ l < hF h 3 4) → ∀ (v : Int) h' sr' nd', CJ U S n sr' nd' h' → Fr h h' → SUA U S n (hF h 3 4) (fun k => hA h (6 + k)) sr' → v = ta (fun q => (bgn u (hA h (6 + Int.toNat l)) (brv u (srt U S (hA h (6 + Int.toNat l)) (Int.toNat m))) s q).2.2) (Int.toNat cb) 0 → Q (some (.inl v)) h') : av_wp none cd_122 0 [some (.inr (.inr (.inl (some (0))))), some (.inr (.inr (.inl (some (t))))), some (.inl m), some (.inl l)] [] h Q := by
  have F := Fr_rf h
  have nr := C.2.1.2.1
  have s12 := co_s12 o
  have cbr := co_cbr o
  refine av_wp_seq 1 (pc' := 1) (lv' := [some (.inr (.inr (.inl (some (0))))), some (.inr (.inr (.inl (some (t))))), some (.inl m), some (.inl l)]) (st' := [.inr (.inr (.inl (some (0))))]) (h' := h) rfl ?_
  refine wq_gr (p' := 4) rfl rfl (congrArg Prod.fst (ly_k C.1.1 0 rfl)) rfl (ly_g C.1.1 0 5 26 rfl) ?_
  refine av_wp_seq 1 (pc' := 5) (lv' := [some (.inr (.inr (.inl (some (0))))), some (.inr (.inr (.inl (some (t))))), some (.inl m), some (.inl l)]) (st' := [.inr (.inr (.inl (some (0)))), .inr (.inr (.inl (some (26))))]) (h' := h) rfl ?_
  refine wq_gr (p' := 8) rfl rfl (congrArg Prod.fst (ly_k C.1.1 0 rfl)) rfl (ly_g C.1.1 0 5 26 rfl) ?_
  refine wq_gr (p' := 11) rfl rfl (congrArg Prod.fst (ly_k C.1.1 26 rfl)) rfl (ly_g C.1.1 26 1 35 rfl) ?_
  refine av_wp_seq 3 (pc' := 14) (lv' := [some (.inr (.inr (.inl (some (0))))), some (.inr (.inr (.inl (some (t))))), some (.inl m), some (.inl l)]) (st' := [.inl l, .inl m, .inr (.inr (.inl (some (t)))), .inr (.inr (.inl (some (35)))), .inr (.inr (.inl (some (26))))]) (h' := h) rfl ?_
  refine wq_cv (p' := 17) (av_qc (.invokevirtual 262) 51 4 0 3) 5 cd_51 [.inl l, .inl m, .inr (.inr (.inl (some (t)))), .inr (.inr (.inl (some (35))))] (26) 3 [some (.inr (.inr (.inl (some (26))))), some (.inr (.inr (.inl (some (35))))), some (.inr (.inr (.inl (some (t))))), some (.inl m), some (.inl l)] rfl rfl rfl pp_51 rfl rfl rfl (congrArg Prod.fst (ly_k C.1.1 26 rfl)) rfl rfl rfl rfl ?_
  refine cz_51 C (Or.inl rfl) o hu m (by omega) mn CR.1 GM CR.2.1 CR.2.2.1 l (by omega) SU (fun l h1 h2 => (rl_8 (CR.2.2.2 l h1 h2)).1) (fun z1 => ?_) (fun z1 z2 z3 h4 r5 n6 a7 C8 F9 U10 E11 Z12 T13 => ?_)
  · show av_wp _ cd_122 17 [some (.inr (.inr (.inl (some (0))))), some (.inr (.inr (.inl (some (t))))), some (.inl m), some (.inl l)] [.inl (0)] h _
    refine av_wp_seq 2 (pc' := 22) (lv' := [some (.inr (.inr (.inl (some (0))))), some (.inr (.inr (.inl (some (t))))), some (.inl m), some (.inl l)]) (st' := [.inl (-2)]) (h' := h) rfl ?_
    refine av_wp_ret (v := some (.inl (-2))) rfl rfl rfl ?_
    exact hq0 (by omega)
  · have X14 : SQ U S n r5 n6 t c s (6 + Int.toNat l) cb u (hA h (6 + Int.toNat l)) (brv u (srt U S (hA h (6 + Int.toNat l)) (Int.toNat m))) a7 (hF h4 35 13) (hF h4 35 14) (hF h4 35 15) (hA h4 31 0) (hA h4 31 1) (hA h4 31 2) (hA h4 31 3) (hA h4 31 4) h h4 := ⟨C8, E11, T13, Z12, F9.1, rfl, rfl, rfl, rfl, rfl⟩
    have G15 := SE (hA h (6 + Int.toNat l)) (brv u (srt U S (hA h (6 + Int.toNat l)) (Int.toNat m))) (brv_b u (srt U S (hA h (6 + Int.toNat l)) (Int.toNat m))) (rl_8 (CR.2.2.2 l (by omega) (by omega))).1
    have H16 : ∀ x : Int, 0 ≤ x → x ≤ 1023 → (bgn u (hA h (6 + Int.toNat l)) (brv u (srt U S (hA h (6 + Int.toNat l)) (Int.toNat m))) s x).2.2 = 9999 ∨ (0 ≤ (bgn u (hA h (6 + Int.toNat l)) (brv u (srt U S (hA h (6 + Int.toNat l)) (Int.toNat m))) s x).2.2 ∧ (bgn u (hA h (6 + Int.toNat l)) (brv u (srt U S (hA h (6 + Int.toNat l)) (Int.toNat m))) s x).2.2 < 9999) := fun x h0 h1 => bgn_0 (HBd_g (x := x) G15.2.2.2.1 (fun q hq i hi => arr_0 (by omega)) ⟨h0, h1⟩)
    show av_wp _ cd_122 17 [some (.inr (.inr (.inl (some (0))))), some (.inr (.inr (.inl (some (t))))), some (.inl m), some (.inl l)] [.inl (1)] h4 _
    refine av_wp_seq 2 (pc' := 24) (lv' := [some (.inr (.inr (.inl (some (0))))), some (.inr (.inr (.inl (some (t))))), some (.inl m), some (.inl l)]) (st' := [.inr (.inr (.inl (some (0))))]) (h' := h4) rfl ?_
    refine wq_gr (p' := 27) rfl rfl (congrArg Prod.fst (ly_k C8.1.1 0 rfl)) rfl (ly_g C8.1.1 0 5 26 rfl) ?_
    refine wq_cv (p' := 30) (av_qc (.invokevirtual 207) 56 0 0 3) 2 cd_56 [] (26) 3 [some (.inr (.inr (.inl (some (26))))), none] rfl rfl rfl pp_56 rfl rfl rfl (congrArg Prod.fst (ly_k C8.1.1 26 rfl)) rfl rfl rfl rfl ?_
    refine cx_56 X14 G15 H16 (by omega) (fun h17 a18 m19 m20 m21 t22 t23 t24 t25 t26 X27 Y28 => ?_)
    show av_wp _ cd_122 30 [some (.inr (.inr (.inl (some (0))))), some (.inr (.inr (.inl (some (t))))), some (.inl m), some (.inl l)] [] h17 _
    refine av_wp_seq 1 (pc' := 31) (lv' := [some (.inr (.inr (.inl (some (0))))), some (.inr (.inr (.inl (some (t))))), some (.inl m), some (.inl l)]) (st' := [.inr (.inr (.inl (some (0))))]) (h' := h17) rfl ?_
    refine wq_gr (p' := 34) rfl rfl (congrArg Prod.fst (ly_k X27.1.1.1 0 rfl)) rfl (ly_g X27.1.1.1 0 5 26 rfl) ?_
    refine wq_gr (p' := 37) rfl rfl (congrArg Prod.fst (ly_k X27.1.1.1 26 rfl)) rfl (ly_g X27.1.1.1 26 8 31 rfl) ?_
    refine av_wp_seq 1 (pc' := 38) (lv' := [some (.inr (.inr (.inl (some (0))))), some (.inr (.inr (.inl (some (t))))), some (.inl m), some (.inl l)]) (st' := [.inl (0), .inr (.inr (.inl (some (31))))]) (h' := h17) rfl ?_
    refine wq_al (p' := 39) (n := 5) rfl rfl (ly_k X27.1.1.1 31 rfl) (by omega) (X27.2.2.2.2.2.1) ?_
    refine av_wp_ret (v := some (.inl t22)) rfl rfl rfl ?_
    exact hq1 (by omega) (by omega) _ h17 _ _ X27.1 X27.2.2.2.2.1 U10 Y28.1

