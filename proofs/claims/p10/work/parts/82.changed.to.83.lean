section
/-! WHAT IF A SAYING WERE LOST, OR WIRED: new cases for a look -/
theorem ctn_v2 {s : Nat} {f : Nat → Int} (b1 : ∀ j, -1 ≤ f j ∧ f j ≤ 100000) (b2 : ∀ k j, j < 4 → f (21 * k + 15 + j) ≤ 16) : (∀ j, -1 ≤ ctn f s j ∧ ctn f s j ≤ 100000) ∧ ∀ k j, j < 4 → ctn f s (21 * k + 15 + j) ≤ 16 := by
  constructor
  · intro j
    unfold ctn
    split
    · have := tnv_b (f := f) (k := j / 21) (fun o h1 h2 => by have := b2 (j / 21) (o - 15) (by omega); rw [show 21 * (j / 21) + 15 + (o - 15) = 21 * (j / 21) + o by omega] at this; exact this)
      omega
    · exact b1 j
  · intro k j hj
    rw [ctn_o (by omega)]
    exact b2 k j hj
/-- cells of a case that is being made -/
def MH (h g : av_H) (s : Nat) : Prop := AL h g 1 (21 * s) ∧ hK g h.1 = (20, 21 * s) ∧ (∀ j, -1 ≤ hA g h.1 j ∧ hA g h.1 j ≤ 100000) ∧ ∀ k j, j < 4 → hA g h.1 (21 * k + 15 + j) ≤ 16
theorem MH_new {h : av_H} {t c s : Nat} {cb : Int} (o : CO h t c s cb) : MH h (av_newN 20 (21 * s) (hA h c) h) s := by
  refine ⟨⟨rfl, rfl, fun q hq => ⟨newN_ko (by omega), newN_ao (by omega), rfl, rfl, rfl⟩⟩, newN_k, ?_⟩
  rw [newN_a]
  exact o.2.2.2.2.2.2.2.2
theorem MH_w {h g : av_H} {s i : Nat} {v : Int} (M : MH h g s) (hv : -1 ≤ v ∧ v ≤ 16) : MH h (hwA g h.1 i v) s := by
  obtain ⟨⟨a1, a2, a3⟩, k1, b1, b2⟩ := M
  refine ⟨⟨a1, a2, fun q hq => ⟨(a3 q hq).1, (hA_ne (by omega)).trans (a3 q hq).2.1, (a3 q hq).2.2⟩⟩, k1, fun j => ?_, fun k j hj => ?_⟩
  · by_cases e : j = i
    · rw [e, show hA (hwA g h.1 i v) h.1 i = v from av_u2_self]; omega
    · rw [show hA (hwA g h.1 i v) h.1 j = hA g h.1 j from av_u2_oth e]; exact b1 j
  · by_cases e : 21 * k + 15 + j = i
    · rw [e, show hA (hwA g h.1 i v) h.1 i = v from av_u2_self]; omega
    · rw [show hA (hwA g h.1 i v) h.1 (21 * k + 15 + j) = hA g h.1 (21 * k + 15 + j) from av_u2_oth e]; exact b2 k j hj
theorem MH_fil {h g : av_H} {s lo hi : Nat} (M : MH h g s) : MH h (hfil g h.1 lo hi 0) s := by
  obtain ⟨⟨a1, a2, a3⟩, k1, b1, b2⟩ := M
  have e : ∀ j, hA (hfil g h.1 lo hi 0) h.1 j = 0 ∨ hA (hfil g h.1 lo hi 0) h.1 j = hA g h.1 j := fun j => by
    show (if h.1 = h.1 ∧ lo ≤ j ∧ j < hi then (0 : Int) else hA g h.1 j) = 0 ∨ (if h.1 = h.1 ∧ lo ≤ j ∧ j < hi then (0 : Int) else hA g h.1 j) = hA g h.1 j
    by_cases c : h.1 = h.1 ∧ lo ≤ j ∧ j < hi
    · exact Or.inl (if_pos c)
    · exact Or.inr (if_neg c)
  refine ⟨⟨a1, a2, fun q hq => ⟨(a3 q hq).1, Eq.trans (by funext j; exact if_neg (by omega)) (a3 q hq).2.1, (a3 q hq).2.2⟩⟩, k1, fun j => ?_, fun k j hj => ?_⟩
  · rcases e j with z | z
    · rw [z]; omega
    · rw [z]; exact b1 j
  · rcases e (21 * k + 15 + j) with z | z
    · rw [z]; omega
    · rw [z]; exact b2 k j hj
theorem IC_al {g h : av_H} {n m : Nat} (G : av_Gd g) (I : IC g) (A : AL g h n m) : IC h := by
  have L := I.1
  have l : ∀ {q : Nat}, q < 122 → q < g.1 := fun hq => ly_lt G L hq
  refine IC_fb G I (AL_fb A) (fun a ha _ j => ?_) (fun i hi => ?_) ?_
  · rw [(A.2.2 a (l (rwc_lt ha))).2.1]; exact I.2.1 a ha j
  · rw [(A.2.2 4 (l (by omega))).2.2.2.2]
    rcases I.2.2.1 i hi with e | ⟨t, c, s, cb, e, o⟩
    · exact Or.inl e
    · exact Or.inr ⟨t, c, s, cb, e, CO_fb G L o (AL_fb A)⟩
  · have e := I.2.2.2.1
    unfold CN at e ⊢
    rw [(A.2.2 3 (l (by omega))).2.2.1]
    exact e
theorem nun_low : LOW nun1 nun1 nun2 nun2 := ⟨fun q e => e.elim, fun q e => e.elim, fun q j e => e.elim, fun q j e => e.elim⟩
theorem BK_al {g h : av_H} {n m : Nat} (G : av_Gd g) (B : BK g) (A : AL g h n m) : BK h := by
  obtain ⟨I, K, ⟨n0, a0, m0, M⟩, ⟨p1, p2, p3⟩, S, X⟩ := B
  have L := I.1
  have l : ∀ {q : Nat}, q < 122 → q < g.1 := fun hq => ly_lt G L hq
  have F : FQ nun1 nun1 nun2 nun2 g h n m := FQ_al A
  have I2 := IC_al G I A
  have l18 : 3 + 18 ≤ g.1 := by have := l (q := 100) (by omega); omega
  have ea : ∀ q, q < 122 → hA h q = hA g q := fun q hq => (A.2.2 q (l hq)).2.1
  have ef : ∀ q k, q < 122 → hF h q k = hF g q k := fun q k hq => congrFun (A.2.2 q (l hq)).2.2.1 k
  refine ⟨I2, KT_fq G L I2.1 F (fun z => z) (fun z => z) (fun z => z) (fun z => z) (fun j z => z) (fun j z => z) (fun j z => z) K, ⟨n0, a0, m0, IMF_eq I2.1 (fun q _ z => ea q (by omega)) (fun k _ => ef 77 k (by omega)) M⟩, ⟨?_, ?_, ?_⟩, ?_, ?_⟩
  · rw [ea 94 (by omega), ea 2 (by omega)]; exact p1
  · rw [ef 77 17 (by omega), ef 1 1 (by omega)]; exact p2
  · rw [ef 77 18 (by omega), ef 0 8 (by omega)]; exact p3
  · exact SL_ag (SL_fq G nun_low F l18 (fun j z => z) (fun z => z) (fun j _ _ z => z) S) (AGB_eq 0 (fun q _ z => ea q (by omega)))
  · exact XI_ag (XI_fq G L nun_low F (fun z => z) (fun z => z) (fun z => z) X) (fun i _ _ => AGB_eq (i + 1) (fun q _ z => ea q (by omega)))

set_option maxRecDepth 100000 in
set_option maxHeartbeats 4000000 in
theorem ct_32 {h : av_H} (L : LY h) {t c s : Nat} {cb : Int} (o : CO h t c s cb) (k : Int) (qk : -2147483648 ≤ k ∧ k ≤ 2147483647) {Q : Option av_V → av_H → Prop} (hq : ∀ h' t' c' cb', AL h h' 3 (4 + 42 * s) → CO h' t' c' s cb' → Q (some (.inr (.inr (.inl (some t'))))) h') : av_wp none cd_32 0 [some (.inr (.inr (.inl (some (t))))), some (.inl k), none] [] h Q := by
  refine gd_of (fun hg => ?_)
  have l122 : 121 < h.1 := ly_lt hg L (by omega)
  have s12 := co_s12 o
  have tl : t < h.1 := gd_lt hg (co_kt o) (by decide)
  have fin : ∀ (g : av_H), MH h g s → av_wp none cd_32 41 [some (.inr (.inr (.inl (some (t))))), some (.inl k), some (.inr (.inr (.inl (some h.1))))] [] g Q := by
    intro g M
    refine av_wp_sqF ck_32 4 (pc' := 47) (lv' := [some (.inr (.inr (.inl (some (t))))), some (.inl k), some (.inr (.inr (.inl (some h.1))))]) (st' := [.inr (.inr (.inl (some (t)))), .inr (.inr (.inl (some h.1))), .inr (.inr (.inl (some g.1))), .inr (.inr (.inl (some g.1)))]) (h' := av_newO 1 4 g) rfl ?_
    have om := CO_fb hg L o (AL_fb M.1)
    have h1 : g.1 = h.1 + 1 := M.1.1
    have kq : ∀ q, q ≠ g.1 → hK (av_newO 1 4 g) q = hK g q := fun q hq => if_neg hq
    have fq : hF (av_newO 1 4 g) t 1 = (s : Int) := by
      show av_u1 g.2.2.2.2.1 g.1 (fun _ => 0) t 1 = _
      rw [show av_u1 g.2.2.2.2.1 g.1 (fun _ => 0) t = g.2.2.2.2.1 t from if_neg (by omega)]
      exact co_s om
    refine wq_gi (p' := 50) (ck_32 _ _ rfl) rfl (congrArg Prod.fst ((kq t (by omega)).trans (co_kt om))) rfl fq ?_
    refine wq_cv (p' := 53) (av_qc (.invokespecial 52) 27 2 1 1) 9 cd_27 [.inl (s : Int), .inr (.inr (.inl (some h.1)))] (g.1) 1 [some (.inr (.inr (.inl (some g.1)))), some (.inr (.inr (.inl (some h.1)))), some (.inl (s : Int)), none, none, none, none, none, none] (ck_32 _ _ rfl) rfl rfl pp_27 rfl rfl rfl (congrArg Prod.fst (show hK (av_newO 1 4 g) g.1 = (1, 0) from if_pos rfl)) rfl rfl rfl rfl ?_
    refine ct_27 (n := 21 * s) (s := s) (show hK (av_newO 1 4 g) g.1 = (1, 0) from if_pos rfl) (by show g.1 ≠ g.1 + 1; omega) (by show h.1 ≠ g.1 + 1; omega) ((kq h.1 (by omega)).trans M.2.1) s12 (by omega) (by omega) (fun j hj => ⟨(M.2.2.1 j).1, (M.2.2.1 j).2, fun z1 z2 => ?_⟩) _ rfl (fun f h5 f1 f2 N5 => ?_)
    · have y := M.2.2.2 (j / 21) (j % 21 - 15) (by omega)
      rw [show 21 * (j / 21) + 15 + (j % 21 - 15) = j by omega] at y
      exact y
    · show av_wp _ cd_32 53 [some (.inr (.inr (.inl (some (t))))), some (.inl k), some (.inr (.inr (.inl (some h.1))))] [.inr (.inr (.inl (some g.1)))] h5 _
      obtain ⟨x5, a5⟩ := nc_cx N5
      refine av_wp_ret (v := some (.inr (.inr (.inl (some g.1))))) rfl rfl rfl ?_
      have fb : ∀ j, f j = hA g h.1 j ∨ f j = 0 := fun j => by
        by_cases e : j < 21 * s
        · exact Or.inl (f1 j e)
        · rcases f2 j (by omega) with w | w
          · exact Or.inr w
          · exact Or.inl w.2
      have b1 : ∀ j, -1 ≤ f j ∧ f j ≤ 100000 := fun j => by
        rcases fb j with e | e
        · rw [e]; exact M.2.2.1 j
        · rw [e]; omega
      have b2 : ∀ k j, j < 4 → f (21 * k + 15 + j) ≤ 16 := fun k j hj => by
        rcases fb (21 * k + 15 + j) with e | e
        · rw [e]; exact M.2.2.2 k j hj
        · rw [e]; omega
      obtain ⟨x1, x2, x3, x4, x6, x7⟩ := x5
      refine hq h5 g.1 (g.1 + 1) (cbv f s) (AL_eq (AL_tr M.1 a5) rfl (by omega)) ⟨x1, x2, s12, x3, cbv_b (fun q _ o h1 h2 => by have := b2 q (o - 15) (by omega); rw [show 21 * q + 15 + (o - 15) = 21 * q + o by omega] at this; exact this), x4, x6, Or.inr (Or.inr (by omega)), ?_⟩
      rw [x7]
      exact ctn_v2 b1 b2
  refine av_wp_sqF ck_32 1 (pc' := 1) (lv' := [some (.inr (.inr (.inl (some (t))))), some (.inl k), none]) (st' := [.inr (.inr (.inl (some (t))))]) (h' := h) rfl ?_
  refine wq_gr (p' := 4) (ck_32 _ _ rfl) rfl (congrArg Prod.fst (co_kt o)) rfl (co_c o) ?_
  refine wq_cl (p' := 7) (ck_32 _ _ rfl) rfl rfl (fun _ _ => rfl) rfl (co_kc o) ?_
  have M0 := MH_new o
  generalize av_newN 20 (21 * s) (hA h c) h = g0 at M0 ⊢
  have o0 := CO_fb hg L o (AL_fb M0.1)
  refine wq_ck (p' := 10) (ck_32 _ _ rfl) rfl M0.2.1 ?_
  refine av_wp_sqF ck_32 3 (pc' := 13) (lv' := [some (.inr (.inr (.inl (some (t))))), some (.inl k), some (.inr (.inr (.inl (some h.1))))]) (st' := [.inl k, .inr (.inr (.inl (some (t))))]) (h' := g0) rfl ?_
  refine wq_cv (p' := 16) (av_qc (.invokevirtual 40) 28 1 0 1) 2 cd_28 [.inl k] (t) 1 [some (.inr (.inr (.inl (some (t))))), some (.inl k)] (ck_32 _ _ rfl) rfl rfl pp_28 rfl rfl rfl (congrArg Prod.fst (co_kt o0)) rfl rfl rfl rfl ?_
  refine ct_28 o0 k (by omega) (fun v p => ?_)
  show av_wp _ cd_32 16 [some (.inr (.inr (.inl (some (t))))), some (.inl k), some (.inr (.inr (.inl (some h.1))))] [.inl v] g0 _
  refine wq_k1 (p' := 19) (ck_32 _ _ rfl) rfl ⟨by omega, by omega⟩ (fun c1 => ?_) (fun c1 => ?_)
  · exact fin g0 M0
  · have c1 : v ≠ (0) := c1
    have kr : 0 ≤ k ∧ k < (s : Int) := by omega
    refine av_wp_sqF ck_32 9 (pc' := 30) (lv' := [some (.inr (.inr (.inl (some (t))))), some (.inl k), some (.inr (.inr (.inl (some h.1))))]) (st' := [.inl (0), .inl (k * (21) + (15) + (3)), .inr (.inr (.inl (some h.1)))]) (h' := g0) rfl ?_
    refine wq_as (p' := 31) (ck_32 _ _ rfl) rfl M0.2.1 ⟨by omega, by omega, by omega⟩ ?_
    have M1 := MH_w (i := (k * (21) + (15) + (3)).toNat) (v := (0)) M0 (by omega)
    generalize hwA g0 h.1 (k * (21) + (15) + (3)).toNat (0) = g1 at M1 ⊢
    refine av_wp_sqF ck_32 7 (pc' := 40) (lv' := [some (.inr (.inr (.inl (some (t))))), some (.inl k), some (.inr (.inr (.inl (some h.1))))]) (st' := [.inl (1), .inl (k * (21) + (19)), .inr (.inr (.inl (some h.1)))]) (h' := g1) rfl ?_
    refine wq_as (p' := 41) (ck_32 _ _ rfl) rfl M1.2.1 ⟨by omega, by omega, by omega⟩ ?_
    exact fin _ (MH_w (i := (k * (21) + (19)).toNat) (v := (1)) M1 (by omega))

set_option maxRecDepth 100000 in
set_option maxHeartbeats 4000000 in
theorem ct_33 {h : av_H} (L : LY h) {t c s : Nat} {cb : Int} (o : CO h t c s cb) (k : Int) (qk : -2147483648 ≤ k ∧ k ≤ 2147483647) {Q : Option av_V → av_H → Prop} (hq : ∀ h' t' c' cb', AL h h' 3 (4 + 42 * s) → CO h' t' c' s cb' → Q (some (.inr (.inr (.inl (some t'))))) h') : av_wp none cd_33 0 [some (.inr (.inr (.inl (some (t))))), some (.inl k), none, none] [] h Q := by
  refine gd_of (fun hg => ?_)
  have l122 : 121 < h.1 := ly_lt hg L (by omega)
  have s12 := co_s12 o
  have tl : t < h.1 := gd_lt hg (co_kt o) (by decide)
  have fin : ∀ (g : av_H), MH h g s → ∀ (z : Option av_V), (z = none ∨ z = some (.inl (k * (21)))) → av_wp none cd_33 65 [some (.inr (.inr (.inl (some (t))))), some (.inl k), some (.inr (.inr (.inl (some h.1)))), z] [] g Q := by
    intro g M z hz
    rcases hz with hz | hz
    · subst hz
      refine av_wp_sqF ck_33 4 (pc' := 71) (lv' := [some (.inr (.inr (.inl (some (t))))), some (.inl k), some (.inr (.inr (.inl (some h.1)))), none]) (st' := [.inr (.inr (.inl (some (t)))), .inr (.inr (.inl (some h.1))), .inr (.inr (.inl (some g.1))), .inr (.inr (.inl (some g.1)))]) (h' := av_newO 1 4 g) rfl ?_
      have om := CO_fb hg L o (AL_fb M.1)
      have h1 : g.1 = h.1 + 1 := M.1.1
      have kq : ∀ q, q ≠ g.1 → hK (av_newO 1 4 g) q = hK g q := fun q hq => if_neg hq
      have fq : hF (av_newO 1 4 g) t 1 = (s : Int) := by
        show av_u1 g.2.2.2.2.1 g.1 (fun _ => 0) t 1 = _
        rw [show av_u1 g.2.2.2.2.1 g.1 (fun _ => 0) t = g.2.2.2.2.1 t from if_neg (by omega)]
        exact co_s om
      refine wq_gi (p' := 74) (ck_33 _ _ rfl) rfl (congrArg Prod.fst ((kq t (by omega)).trans (co_kt om))) rfl fq ?_
      refine wq_cv (p' := 77) (av_qc (.invokespecial 52) 27 2 1 1) 9 cd_27 [.inl (s : Int), .inr (.inr (.inl (some h.1)))] (g.1) 1 [some (.inr (.inr (.inl (some g.1)))), some (.inr (.inr (.inl (some h.1)))), some (.inl (s : Int)), none, none, none, none, none, none] (ck_33 _ _ rfl) rfl rfl pp_27 rfl rfl rfl (congrArg Prod.fst (show hK (av_newO 1 4 g) g.1 = (1, 0) from if_pos rfl)) rfl rfl rfl rfl ?_
      refine ct_27 (n := 21 * s) (s := s) (show hK (av_newO 1 4 g) g.1 = (1, 0) from if_pos rfl) (by show g.1 ≠ g.1 + 1; omega) (by show h.1 ≠ g.1 + 1; omega) ((kq h.1 (by omega)).trans M.2.1) s12 (by omega) (by omega) (fun j hj => ⟨(M.2.2.1 j).1, (M.2.2.1 j).2, fun z1 z2 => ?_⟩) _ rfl (fun f h5 f1 f2 N5 => ?_)
      · have y := M.2.2.2 (j / 21) (j % 21 - 15) (by omega)
        rw [show 21 * (j / 21) + 15 + (j % 21 - 15) = j by omega] at y
        exact y
      · show av_wp _ cd_33 77 [some (.inr (.inr (.inl (some (t))))), some (.inl k), some (.inr (.inr (.inl (some h.1)))), none] [.inr (.inr (.inl (some g.1)))] h5 _
        obtain ⟨x5, a5⟩ := nc_cx N5
        refine av_wp_ret (v := some (.inr (.inr (.inl (some g.1))))) rfl rfl rfl ?_
        have fb : ∀ j, f j = hA g h.1 j ∨ f j = 0 := fun j => by
          by_cases e : j < 21 * s
          · exact Or.inl (f1 j e)
          · rcases f2 j (by omega) with w | w
            · exact Or.inr w
            · exact Or.inl w.2
        have b1 : ∀ j, -1 ≤ f j ∧ f j ≤ 100000 := fun j => by
          rcases fb j with e | e
          · rw [e]; exact M.2.2.1 j
          · rw [e]; omega
        have b2 : ∀ k j, j < 4 → f (21 * k + 15 + j) ≤ 16 := fun k j hj => by
          rcases fb (21 * k + 15 + j) with e | e
          · rw [e]; exact M.2.2.2 k j hj
          · rw [e]; omega
        obtain ⟨x1, x2, x3, x4, x6, x7⟩ := x5
        refine hq h5 g.1 (g.1 + 1) (cbv f s) (AL_eq (AL_tr M.1 a5) rfl (by omega)) ⟨x1, x2, s12, x3, cbv_b (fun q _ o h1 h2 => by have := b2 q (o - 15) (by omega); rw [show 21 * q + 15 + (o - 15) = 21 * q + o by omega] at this; exact this), x4, x6, Or.inr (Or.inr (by omega)), ?_⟩
        rw [x7]
        exact ctn_v2 b1 b2
    · subst hz
      refine av_wp_sqF ck_33 4 (pc' := 71) (lv' := [some (.inr (.inr (.inl (some (t))))), some (.inl k), some (.inr (.inr (.inl (some h.1)))), some (.inl (k * (21)))]) (st' := [.inr (.inr (.inl (some (t)))), .inr (.inr (.inl (some h.1))), .inr (.inr (.inl (some g.1))), .inr (.inr (.inl (some g.1)))]) (h' := av_newO 1 4 g) rfl ?_
      have om := CO_fb hg L o (AL_fb M.1)
      have h1 : g.1 = h.1 + 1 := M.1.1
      have kq : ∀ q, q ≠ g.1 → hK (av_newO 1 4 g) q = hK g q := fun q hq => if_neg hq
      have fq : hF (av_newO 1 4 g) t 1 = (s : Int) := by
        show av_u1 g.2.2.2.2.1 g.1 (fun _ => 0) t 1 = _
        rw [show av_u1 g.2.2.2.2.1 g.1 (fun _ => 0) t = g.2.2.2.2.1 t from if_neg (by omega)]
        exact co_s om
      refine wq_gi (p' := 74) (ck_33 _ _ rfl) rfl (congrArg Prod.fst ((kq t (by omega)).trans (co_kt om))) rfl fq ?_
      refine wq_cv (p' := 77) (av_qc (.invokespecial 52) 27 2 1 1) 9 cd_27 [.inl (s : Int), .inr (.inr (.inl (some h.1)))] (g.1) 1 [some (.inr (.inr (.inl (some g.1)))), some (.inr (.inr (.inl (some h.1)))), some (.inl (s : Int)), none, none, none, none, none, none] (ck_33 _ _ rfl) rfl rfl pp_27 rfl rfl rfl (congrArg Prod.fst (show hK (av_newO 1 4 g) g.1 = (1, 0) from if_pos rfl)) rfl rfl rfl rfl ?_
      refine ct_27 (n := 21 * s) (s := s) (show hK (av_newO 1 4 g) g.1 = (1, 0) from if_pos rfl) (by show g.1 ≠ g.1 + 1; omega) (by show h.1 ≠ g.1 + 1; omega) ((kq h.1 (by omega)).trans M.2.1) s12 (by omega) (by omega) (fun j hj => ⟨(M.2.2.1 j).1, (M.2.2.1 j).2, fun z1 z2 => ?_⟩) _ rfl (fun f h5 f1 f2 N5 => ?_)
      · have y := M.2.2.2 (j / 21) (j % 21 - 15) (by omega)
        rw [show 21 * (j / 21) + 15 + (j % 21 - 15) = j by omega] at y
        exact y
      · show av_wp _ cd_33 77 [some (.inr (.inr (.inl (some (t))))), some (.inl k), some (.inr (.inr (.inl (some h.1)))), some (.inl (k * (21)))] [.inr (.inr (.inl (some g.1)))] h5 _
        obtain ⟨x5, a5⟩ := nc_cx N5
        refine av_wp_ret (v := some (.inr (.inr (.inl (some g.1))))) rfl rfl rfl ?_
        have fb : ∀ j, f j = hA g h.1 j ∨ f j = 0 := fun j => by
          by_cases e : j < 21 * s
          · exact Or.inl (f1 j e)
          · rcases f2 j (by omega) with w | w
            · exact Or.inr w
            · exact Or.inl w.2
        have b1 : ∀ j, -1 ≤ f j ∧ f j ≤ 100000 := fun j => by
          rcases fb j with e | e
          · rw [e]; exact M.2.2.1 j
          · rw [e]; omega
        have b2 : ∀ k j, j < 4 → f (21 * k + 15 + j) ≤ 16 := fun k j hj => by
          rcases fb (21 * k + 15 + j) with e | e
          · rw [e]; exact M.2.2.2 k j hj
          · rw [e]; omega
        obtain ⟨x1, x2, x3, x4, x6, x7⟩ := x5
        refine hq h5 g.1 (g.1 + 1) (cbv f s) (AL_eq (AL_tr M.1 a5) rfl (by omega)) ⟨x1, x2, s12, x3, cbv_b (fun q _ o h1 h2 => by have := b2 q (o - 15) (by omega); rw [show 21 * q + 15 + (o - 15) = 21 * q + o by omega] at this; exact this), x4, x6, Or.inr (Or.inr (by omega)), ?_⟩
        rw [x7]
        exact ctn_v2 b1 b2
  refine av_wp_sqF ck_33 1 (pc' := 1) (lv' := [some (.inr (.inr (.inl (some (t))))), some (.inl k), none, none]) (st' := [.inr (.inr (.inl (some (t))))]) (h' := h) rfl ?_
  refine wq_gr (p' := 4) (ck_33 _ _ rfl) rfl (congrArg Prod.fst (co_kt o)) rfl (co_c o) ?_
  refine wq_cl (p' := 7) (ck_33 _ _ rfl) rfl rfl (fun _ _ => rfl) rfl (co_kc o) ?_
  have M0 := MH_new o
  generalize av_newN 20 (21 * s) (hA h c) h = g0 at M0 ⊢
  have o0 := CO_fb hg L o (AL_fb M0.1)
  refine wq_ck (p' := 10) (ck_33 _ _ rfl) rfl M0.2.1 ?_
  refine av_wp_sqF ck_33 3 (pc' := 13) (lv' := [some (.inr (.inr (.inl (some (t))))), some (.inl k), some (.inr (.inr (.inl (some h.1)))), none]) (st' := [.inl k, .inr (.inr (.inl (some (t))))]) (h' := g0) rfl ?_
  refine wq_cv (p' := 16) (av_qc (.invokevirtual 40) 28 1 0 1) 2 cd_28 [.inl k] (t) 1 [some (.inr (.inr (.inl (some (t))))), some (.inl k)] (ck_33 _ _ rfl) rfl rfl pp_28 rfl rfl rfl (congrArg Prod.fst (co_kt o0)) rfl rfl rfl rfl ?_
  refine ct_28 o0 k (by omega) (fun v p => ?_)
  show av_wp _ cd_33 16 [some (.inr (.inr (.inl (some (t))))), some (.inl k), some (.inr (.inr (.inl (some h.1)))), none] [.inl v] g0 _
  refine wq_k1 (p' := 19) (ck_33 _ _ rfl) rfl ⟨by omega, by omega⟩ (fun c1 => ?_) (fun c1 => ?_)
  · exact fin g0 M0 none (Or.inl rfl)
  · have c1 : v ≠ (0) := c1
    have kr : 0 ≤ k ∧ k < (s : Int) := by omega
    refine av_wp_sqF ck_33 9 (pc' := 29) (lv' := [some (.inr (.inr (.inl (some (t))))), some (.inl k), some (.inr (.inr (.inl (some h.1)))), some (.inl (k * (21)))]) (st' := [.inl (1), .inl (k * (21) + (4)), .inr (.inr (.inl (some h.1)))]) (h' := g0) rfl ?_
    refine wq_as (p' := 30) (ck_33 _ _ rfl) rfl M0.2.1 ⟨by omega, by omega, by omega⟩ ?_
    have M1 := MH_w (i := (k * (21) + (4)).toNat) (v := (1)) M0 (by omega)
    generalize hwA g0 h.1 (k * (21) + (4)).toNat (1) = g1 at M1 ⊢
    refine av_wp_sqF ck_33 7 (pc' := 38) (lv' := [some (.inr (.inr (.inl (some (t))))), some (.inl k), some (.inr (.inr (.inl (some h.1)))), some (.inl (k * (21)))]) (st' := [.inl (0), .inl (k * (21) + (7) + (1)), .inr (.inr (.inl (some h.1)))]) (h' := g1) rfl ?_
    refine wq_as (p' := 39) (ck_33 _ _ rfl) rfl M1.2.1 ⟨by omega, by omega, by omega⟩ ?_
    have M2 := MH_w (i := (k * (21) + (7) + (1)).toNat) (v := (0)) M1 (by omega)
    generalize hwA g1 h.1 (k * (21) + (7) + (1)).toNat (0) = g2 at M2 ⊢
    refine av_wp_sqF ck_33 7 (pc' := 47) (lv' := [some (.inr (.inr (.inl (some (t))))), some (.inl k), some (.inr (.inr (.inl (some h.1)))), some (.inl (k * (21)))]) (st' := [.inl (0), .inl (k * (21) + (7) + (2)), .inr (.inr (.inl (some h.1)))]) (h' := g2) rfl ?_
    refine wq_as (p' := 48) (ck_33 _ _ rfl) rfl M2.2.1 ⟨by omega, by omega, by omega⟩ ?_
    have M3 := MH_w (i := (k * (21) + (7) + (2)).toNat) (v := (0)) M2 (by omega)
    generalize hwA g2 h.1 (k * (21) + (7) + (2)).toNat (0) = g3 at M3 ⊢
    refine av_wp_sqF ck_33 12 (pc' := 62) (lv' := [some (.inr (.inr (.inl (some (t))))), some (.inl k), some (.inr (.inr (.inl (some h.1)))), some (.inl (k * (21)))]) (st' := [.inl (0), .inl (k * (21) + (15) + (4)), .inl (k * (21) + (15) + (1)), .inr (.inr (.inl (some h.1)))]) (h' := g3) rfl ?_
    refine wq_cs (p' := 65) (av_qc (.invokestatic 55) 221 4 2 10) 5 cd_221 [.inr (.inr (.inl (some h.1))), .inl (k * (21) + (15) + (1)), .inl (k * (21) + (15) + (4)), .inl (0)] [.inl (0), .inl (k * (21) + (15) + (4)), .inl (k * (21) + (15) + (1)), .inr (.inr (.inl (some h.1)))] [some (.inr (.inr (.inl (some h.1)))), some (.inl (k * (21) + (15) + (1))), some (.inl (k * (21) + (15) + (4))), some (.inl (0)), none] (ck_33 _ _ rfl) rfl rfl pp_221 (fun _ => rfl) rfl rfl ?_
    refine ct_221 (n := 21 * s) (k * (21) + (15) + (1)).toNat (k * (21) + (15) + (4)).toNat (by omega) (by omega) M3.2.1 (by omega) (by omega) (by omega) ?_
    exact fin _ (MH_fil M3) _ (Or.inr rfl)

set_option maxRecDepth 100000 in
set_option maxHeartbeats 4000000 in
theorem ct_122 {h : av_H} (I : IC h) {t c s : Nat} {cb : Int} (o : CO h t c s cb) (n : Int) (qn : 0 ≤ n ∧ n ≤ 15) (l : Int) (ql : -2147483648 ≤ l ∧ l ≤ 2147483647) {Q : Option av_V → av_H → Prop} (hq : ∀ (v : Int) h', IC h' → Fr h h' → Q (some (.inl v)) h') : av_wp none cd_122 0 [some (.inr (.inr (.inl (some (0))))), some (.inr (.inr (.inl (some (t))))), some (.inl n), some (.inl l)] [] h Q := by
  have F := Fr_rf h
  have g1 := co_s12 o
  have g2 := co_cbr o
  refine av_wp_sqF ck_122 1 (pc' := 1) (lv' := [some (.inr (.inr (.inl (some (0))))), some (.inr (.inr (.inl (some (t))))), some (.inl n), some (.inl l)]) (st' := [.inr (.inr (.inl (some (0))))]) (h' := h) rfl ?_
  refine wq_gr (p' := 4) (ck_122 _ _ rfl) rfl (congrArg Prod.fst (ly_k I.1 0 rfl)) rfl (ly_g I.1 0 5 26 rfl) ?_
  refine av_wp_sqF ck_122 1 (pc' := 5) (lv' := [some (.inr (.inr (.inl (some (0))))), some (.inr (.inr (.inl (some (t))))), some (.inl n), some (.inl l)]) (st' := [.inr (.inr (.inl (some (0)))), .inr (.inr (.inl (some (26))))]) (h' := h) rfl ?_
  refine wq_gr (p' := 8) (ck_122 _ _ rfl) rfl (congrArg Prod.fst (ly_k I.1 0 rfl)) rfl (ly_g I.1 0 5 26 rfl) ?_
  refine wq_gr (p' := 11) (ck_122 _ _ rfl) rfl (congrArg Prod.fst (ly_k I.1 26 rfl)) rfl (ly_g I.1 26 1 35 rfl) ?_
  refine av_wp_sqF ck_122 3 (pc' := 14) (lv' := [some (.inr (.inr (.inl (some (0))))), some (.inr (.inr (.inl (some (t))))), some (.inl n), some (.inl l)]) (st' := [.inl l, .inl n, .inr (.inr (.inl (some (t)))), .inr (.inr (.inl (some (35)))), .inr (.inr (.inl (some (26))))]) (h' := h) rfl ?_
  refine wq_cv (p' := 17) (av_qc (.invokevirtual 262) 51 4 0 3) 5 cd_51 [.inl l, .inl n, .inr (.inr (.inl (some (t)))), .inr (.inr (.inl (some (35))))] (26) 3 [some (.inr (.inr (.inl (some (26))))), some (.inr (.inr (.inl (some (35))))), some (.inr (.inr (.inl (some (t))))), some (.inl n), some (.inl l)] (ck_122 _ _ rfl) rfl rfl pp_51 rfl rfl rfl (congrArg Prod.fst (ly_k I.1 26 rfl)) rfl rfl rfl rfl ?_
  refine ct_51 I (Or.inl rfl) o (n) (by omega) (l) (by omega) (fun h3 i4 F5 => ?_) (fun h3 r6 i4 z7 F5 => ?_)
  · have F8 := Fr_tr F F5.1
    have o9 := CO_fr I.1 o F5.1
    show av_wp _ cd_122 17 [some (.inr (.inr (.inl (some (0))))), some (.inr (.inr (.inl (some (t))))), some (.inl n), some (.inl l)] [.inl (0)] h3 _
    refine av_wp_sqF ck_122 2 (pc' := 22) (lv' := [some (.inr (.inr (.inl (some (0))))), some (.inr (.inr (.inl (some (t))))), some (.inl n), some (.inl l)]) (st' := [.inl (-2)]) (h' := h3) rfl ?_
    refine av_wp_ret (v := some (.inl (-2))) (ck_122 _ _ rfl) rfl rfl ?_
    exact hq _ h3 i4 F8
  · have F10 := Fr_tr F F5.1
    have o11 := CO_fr I.1 o F5.1
    show av_wp _ cd_122 17 [some (.inr (.inr (.inl (some (0))))), some (.inr (.inr (.inl (some (t))))), some (.inl n), some (.inl l)] [.inl (1)] h3 _
    refine av_wp_sqF ck_122 2 (pc' := 24) (lv' := [some (.inr (.inr (.inl (some (0))))), some (.inr (.inr (.inl (some (t))))), some (.inl n), some (.inl l)]) (st' := [.inr (.inr (.inl (some (0))))]) (h' := h3) rfl ?_
    refine wq_gr (p' := 27) (ck_122 _ _ rfl) rfl (congrArg Prod.fst (ly_k (ib_ic i4).1 0 rfl)) rfl (ly_g (ib_ic i4).1 0 5 26 rfl) ?_
    refine wq_cv (p' := 30) (av_qc (.invokevirtual 207) 56 0 0 3) 2 cd_56 [] (26) 3 [some (.inr (.inr (.inl (some (26))))), none] (ck_122 _ _ rfl) rfl rfl pp_56 rfl rfl rfl (congrArg Prod.fst (ly_k (ib_ic i4).1 26 rfl)) rfl rfl rfl rfl ?_
    refine ct_56 i4  (fun h12 i13 F14 => ?_)
    have F17 := Fr_tr F10 F14.1
    have o18 := CO_fr (ib_ic i4).1 o11 F14.1
    show av_wp _ cd_122 30 [some (.inr (.inr (.inl (some (0))))), some (.inr (.inr (.inl (some (t))))), some (.inl n), some (.inl l)] [] h12 _
    refine av_wp_sqF ck_122 1 (pc' := 31) (lv' := [some (.inr (.inr (.inl (some (0))))), some (.inr (.inr (.inl (some (t))))), some (.inl n), some (.inl l)]) (st' := [.inr (.inr (.inl (some (0))))]) (h' := h12) rfl ?_
    refine wq_gr (p' := 34) (ck_122 _ _ rfl) rfl (congrArg Prod.fst (ly_k (ib_ic i13).1 0 rfl)) rfl (ly_g (ib_ic i13).1 0 5 26 rfl) ?_
    refine wq_gr (p' := 37) (ck_122 _ _ rfl) rfl (congrArg Prod.fst (ly_k (ib_ic i13).1 26 rfl)) rfl (ly_g (ib_ic i13).1 26 8 31 rfl) ?_
    refine av_wp_sqF ck_122 1 (pc' := 38) (lv' := [some (.inr (.inr (.inl (some (0))))), some (.inr (.inr (.inl (some (t))))), some (.inl n), some (.inl l)]) (st' := [.inl (0), .inr (.inr (.inl (some (31))))]) (h' := h12) rfl ?_
    obtain ⟨v19, e20⟩ : ∃ v, hA h12 (31) (Int.toNat ((0))) = v := ⟨_, rfl⟩
    refine wq_al (p' := 39) (n := 5) (ck_122 _ _ rfl) rfl (ly_k (ib_ic i13).1 31 rfl) (by omega) (e20) ?_
    refine av_wp_ret (v := some (.inl v19)) (ck_122 _ _ rfl) rfl rfl ?_
    exact hq _ h12 (ib_ic i13) F17

set_option maxRecDepth 100000 in
set_option maxHeartbeats 4000000 in
theorem ct_120 {h : av_H} (I : IC h) (n : Int) (qn : -2147483648 ≤ n ∧ n ≤ 2147483647) (l : Int) (ql : -2147483648 ≤ l ∧ l ≤ 2147483647) (k : Int) (qk : -2147483648 ≤ k ∧ k ≤ 2147483647) {Q : Option av_V → av_H → Prop} (hq : ∀ (v : Int) h1 h' a b, a ≤ 3 → b ≤ 508 → AL h h1 a b → IC h' → Fr h1 h' → Q (some (.inl v)) h') : av_wp none cd_120 0 [some (.inr (.inr (.inl (some (0))))), some (.inl n), some (.inl l), some (.inl k), none] [] h Q := by
  refine gd_of (fun hg => ?_)
  have al0 : AL h h 0 0 := ⟨rfl, rfl, fun q _ => ⟨rfl, rfl, rfl, rfl, rfl⟩⟩
  have bad : ∀ x, av_wp none cd_120 35 [some (.inr (.inr (.inl (some (0))))), some (.inl n), some (.inl l), some (.inl k), some (.inr (.inr (.inl x)))] [] h Q := fun x => by
    refine av_wp_sqF ck_120 1 (pc' := 37) (lv' := [some (.inr (.inr (.inl (some (0))))), some (.inl n), some (.inl l), some (.inl k), some (.inr (.inr (.inl x)))]) (st' := [.inl (-2)]) (h' := h) rfl ?_
    exact av_wp_ret (v := some (.inl (-2))) rfl rfl rfl (hq _ h h 0 0 (by omega) (by omega) al0 I (Fr_rf h))
  refine av_wp_sqF ck_120 1 (pc' := 1) (lv' := [some (.inr (.inr (.inl (some (0))))), some (.inl n), some (.inl l), some (.inl k), none]) (st' := [.inr (.inr (.inl (some (0))))]) (h' := h) rfl ?_
  refine wq_gr (p' := 4) (ck_120 _ _ rfl) rfl (congrArg Prod.fst (ly_k I.1 0 rfl)) rfl (ly_g I.1 0 1 3 rfl) ?_
  refine av_wp_sqF ck_120 1 (pc' := 5) (lv' := [some (.inr (.inr (.inl (some (0))))), some (.inl n), some (.inl l), some (.inl k), none]) (st' := [.inl n, .inr (.inr (.inl (some (3))))]) (h' := h) rfl ?_
  refine wq_cv (p' := 8) (av_qc (.invokevirtual 96) 69 1 0 5) 2 cd_69 [.inl n] (3) 5 [some (.inr (.inr (.inl (some (3))))), some (.inl n)] (ck_120 _ _ rfl) rfl rfl pp_69 rfl rfl rfl (congrArg Prod.fst (ly_k I.1 3 rfl)) rfl rfl rfl rfl ?_
  refine ct_69 I n (by omega) ?_ (fun t c s d o z1 z2 => ?_)
  · show av_wp _ cd_120 8 [some (.inr (.inr (.inl (some (0))))), some (.inl n), some (.inl l), some (.inl k), none] [.inr (.inr (.inl none))] h _
    refine av_wp_sqF ck_120 2 (pc' := 12) (lv' := [some (.inr (.inr (.inl (some (0))))), some (.inl n), some (.inl l), some (.inl k), some (.inr (.inr (.inl none)))]) (st' := [.inr (.inr (.inl none))]) (h' := h) rfl ?_
    exact wq_nu (p' := 15) (ck_120 _ _ rfl) rfl (fun _ => bad none) (fun o e => by cases e)
  · show av_wp _ cd_120 8 [some (.inr (.inr (.inl (some (0))))), some (.inl n), some (.inl l), some (.inl k), none] [.inr (.inr (.inl (some t)))] h _
    refine av_wp_sqF ck_120 2 (pc' := 12) (lv' := [some (.inr (.inr (.inl (some (0))))), some (.inl n), some (.inl l), some (.inl k), some (.inr (.inr (.inl (some t))))]) (st' := [.inr (.inr (.inl (some t)))]) (h' := h) rfl ?_
    refine wq_nu (p' := 15) (ck_120 _ _ rfl) rfl (fun e => by cases e) (fun _ _ => ?_)
    refine av_wp_sqF ck_120 2 (pc' := 18) (lv' := [some (.inr (.inr (.inl (some (0))))), some (.inl n), some (.inl l), some (.inl k), some (.inr (.inr (.inl (some t))))]) (st' := [.inl k, .inr (.inr (.inl (some t)))]) (h' := h) rfl ?_
    refine wq_cv (p' := 21) (av_qc (.invokevirtual 136) 28 1 0 1) 2 cd_28 [.inl k] (t) 1 [some (.inr (.inr (.inl (some t)))), some (.inl k)] (ck_120 _ _ rfl) rfl rfl pp_28 rfl rfl rfl (congrArg Prod.fst (co_kt o)) rfl rfl rfl rfl ?_
    refine ct_28 o k (by omega) (fun v p => ?_)
    show av_wp _ cd_120 21 [some (.inr (.inr (.inl (some (0))))), some (.inl n), some (.inl l), some (.inl k), some (.inr (.inr (.inl (some t))))] [.inl v] h _
    refine wq_k1 (p' := 24) (ck_120 _ _ rfl) rfl ⟨by omega, by omega⟩ (fun c1 => bad _) (fun c1 => ?_)
    refine av_wp_sqF ck_120 3 (pc' := 28) (lv' := [some (.inr (.inr (.inl (some (0))))), some (.inl n), some (.inl l), some (.inl k), some (.inr (.inr (.inl (some t))))]) (st' := [.inl (4), .inl k, .inr (.inr (.inl (some t)))]) (h' := h) rfl ?_
    refine wq_cv (p' := 31) (av_qc (.invokevirtual 139) 29 2 0 1) 3 cd_29 [.inl (4), .inl k] (t) 1 [some (.inr (.inr (.inl (some t)))), some (.inl k), some (.inl (4))] (ck_120 _ _ rfl) rfl rfl pp_29 rfl rfl rfl (congrArg Prod.fst (co_kt o)) rfl rfl rfl rfl ?_
    refine ct_29 o k (4) (by omega) (by omega) (fun v2 p2 => ?_)
    show av_wp _ cd_120 31 [some (.inr (.inr (.inl (some (0))))), some (.inl n), some (.inl l), some (.inl k), some (.inr (.inr (.inl (some t))))] [.inl v2] h _
    refine av_wp_sqF ck_120 1 (pc' := 32) (lv' := [some (.inr (.inr (.inl (some (0))))), some (.inl n), some (.inl l), some (.inl k), some (.inr (.inr (.inl (some t))))]) (st' := [.inl (1), .inl v2]) (h' := h) rfl ?_
    refine wq_k2 (p' := 35) (ck_120 _ _ rfl) rfl ⟨by omega, by omega⟩ ⟨by omega, by omega⟩ (fun c2 => ?_) (fun c2 => bad _)
    refine av_wp_sqF ck_120 3 (pc' := 42) (lv' := [some (.inr (.inr (.inl (some (0))))), some (.inl n), some (.inl l), some (.inl k), some (.inr (.inr (.inl (some t))))]) (st' := [.inl k, .inr (.inr (.inl (some t))), .inr (.inr (.inl (some (0))))]) (h' := h) rfl ?_
    refine wq_cv (p' := 45) (av_qc (.invokevirtual 252) 32 1 0 1) 3 cd_32 [.inl k] (t) 1 [some (.inr (.inr (.inl (some t)))), some (.inl k), none] (ck_120 _ _ rfl) rfl rfl pp_32 rfl rfl rfl (congrArg Prod.fst (co_kt o)) rfl rfl rfl rfl ?_
    refine ct_32 I.1 o k (by omega) (fun h1 t1 c1 cb1 A1 o1 => ?_)
    have I1 := IC_al hg I A1
    have s12 := co_s12 o
    show av_wp _ cd_120 45 [some (.inr (.inr (.inl (some (0))))), some (.inl n), some (.inl l), some (.inl k), some (.inr (.inr (.inl (some t))))] [.inr (.inr (.inl (some t1))), .inr (.inr (.inl (some (0))))] h1 _
    refine av_wp_sqF ck_120 2 (pc' := 47) (lv' := [some (.inr (.inr (.inl (some (0))))), some (.inl n), some (.inl l), some (.inl k), some (.inr (.inr (.inl (some t))))]) (st' := [.inl l, .inl n, .inr (.inr (.inl (some t1))), .inr (.inr (.inl (some (0))))]) (h' := h1) rfl ?_
    refine wq_cv (p' := 50) (av_qc (.invokevirtual 255) 122 3 0 7) 4 cd_122 [.inl l, .inl n, .inr (.inr (.inl (some t1)))] (0) 7 [some (.inr (.inr (.inl (some (0))))), some (.inr (.inr (.inl (some t1)))), some (.inl n), some (.inl l)] (ck_120 _ _ rfl) rfl rfl pp_122 rfl rfl rfl (congrArg Prod.fst (ly_k I1.1 0 rfl)) rfl rfl rfl rfl ?_
    refine ct_122 I1 o1 n (by omega) l (by omega) (fun w h2 I2 F2 => ?_)
    show av_wp _ cd_120 50 [some (.inr (.inr (.inl (some (0))))), some (.inl n), some (.inl l), some (.inl k), some (.inr (.inr (.inl (some t))))] [.inl w] h2 _
    exact av_wp_ret (v := some (.inl w)) rfl rfl rfl (hq _ h1 h2 3 (4 + 42 * s) (by omega) (by omega) A1 I2 F2)

set_option maxRecDepth 100000 in
set_option maxHeartbeats 4000000 in
theorem ct_121 {h : av_H} (I : IC h) (n : Int) (qn : -2147483648 ≤ n ∧ n ≤ 2147483647) (l : Int) (ql : -2147483648 ≤ l ∧ l ≤ 2147483647) (k : Int) (qk : -2147483648 ≤ k ∧ k ≤ 2147483647) {Q : Option av_V → av_H → Prop} (hq : ∀ (v : Int) h1 h' a b, a ≤ 3 → b ≤ 508 → AL h h1 a b → IC h' → Fr h1 h' → Q (some (.inl v)) h') : av_wp none cd_121 0 [some (.inr (.inr (.inl (some (0))))), some (.inl n), some (.inl l), some (.inl k), none] [] h Q := by
  refine gd_of (fun hg => ?_)
  have al0 : AL h h 0 0 := ⟨rfl, rfl, fun q _ => ⟨rfl, rfl, rfl, rfl, rfl⟩⟩
  have bad : ∀ x, av_wp none cd_121 24 [some (.inr (.inr (.inl (some (0))))), some (.inl n), some (.inl l), some (.inl k), some (.inr (.inr (.inl x)))] [] h Q := fun x => by
    refine av_wp_sqF ck_121 1 (pc' := 26) (lv' := [some (.inr (.inr (.inl (some (0))))), some (.inl n), some (.inl l), some (.inl k), some (.inr (.inr (.inl x)))]) (st' := [.inl (-2)]) (h' := h) rfl ?_
    exact av_wp_ret (v := some (.inl (-2))) rfl rfl rfl (hq _ h h 0 0 (by omega) (by omega) al0 I (Fr_rf h))
  refine av_wp_sqF ck_121 1 (pc' := 1) (lv' := [some (.inr (.inr (.inl (some (0))))), some (.inl n), some (.inl l), some (.inl k), none]) (st' := [.inr (.inr (.inl (some (0))))]) (h' := h) rfl ?_
  refine wq_gr (p' := 4) (ck_121 _ _ rfl) rfl (congrArg Prod.fst (ly_k I.1 0 rfl)) rfl (ly_g I.1 0 1 3 rfl) ?_
  refine av_wp_sqF ck_121 1 (pc' := 5) (lv' := [some (.inr (.inr (.inl (some (0))))), some (.inl n), some (.inl l), some (.inl k), none]) (st' := [.inl n, .inr (.inr (.inl (some (3))))]) (h' := h) rfl ?_
  refine wq_cv (p' := 8) (av_qc (.invokevirtual 96) 69 1 0 5) 2 cd_69 [.inl n] (3) 5 [some (.inr (.inr (.inl (some (3))))), some (.inl n)] (ck_121 _ _ rfl) rfl rfl pp_69 rfl rfl rfl (congrArg Prod.fst (ly_k I.1 3 rfl)) rfl rfl rfl rfl ?_
  refine ct_69 I n (by omega) ?_ (fun t c s d o z1 z2 => ?_)
  · show av_wp _ cd_121 8 [some (.inr (.inr (.inl (some (0))))), some (.inl n), some (.inl l), some (.inl k), none] [.inr (.inr (.inl none))] h _
    refine av_wp_sqF ck_121 2 (pc' := 12) (lv' := [some (.inr (.inr (.inl (some (0))))), some (.inl n), some (.inl l), some (.inl k), some (.inr (.inr (.inl none)))]) (st' := [.inr (.inr (.inl none))]) (h' := h) rfl ?_
    exact wq_nu (p' := 15) (ck_121 _ _ rfl) rfl (fun _ => bad none) (fun o e => by cases e)
  · show av_wp _ cd_121 8 [some (.inr (.inr (.inl (some (0))))), some (.inl n), some (.inl l), some (.inl k), none] [.inr (.inr (.inl (some t)))] h _
    refine av_wp_sqF ck_121 2 (pc' := 12) (lv' := [some (.inr (.inr (.inl (some (0))))), some (.inl n), some (.inl l), some (.inl k), some (.inr (.inr (.inl (some t))))]) (st' := [.inr (.inr (.inl (some t)))]) (h' := h) rfl ?_
    refine wq_nu (p' := 15) (ck_121 _ _ rfl) rfl (fun e => by cases e) (fun _ _ => ?_)
    refine av_wp_sqF ck_121 2 (pc' := 18) (lv' := [some (.inr (.inr (.inl (some (0))))), some (.inl n), some (.inl l), some (.inl k), some (.inr (.inr (.inl (some t))))]) (st' := [.inl k, .inr (.inr (.inl (some t)))]) (h' := h) rfl ?_
    refine wq_cv (p' := 21) (av_qc (.invokevirtual 136) 28 1 0 1) 2 cd_28 [.inl k] (t) 1 [some (.inr (.inr (.inl (some t)))), some (.inl k)] (ck_121 _ _ rfl) rfl rfl pp_28 rfl rfl rfl (congrArg Prod.fst (co_kt o)) rfl rfl rfl rfl ?_
    refine ct_28 o k (by omega) (fun v p => ?_)
    show av_wp _ cd_121 21 [some (.inr (.inr (.inl (some (0))))), some (.inl n), some (.inl l), some (.inl k), some (.inr (.inr (.inl (some t))))] [.inl v] h _
    refine wq_k1 (p' := 24) (ck_121 _ _ rfl) rfl ⟨by omega, by omega⟩ (fun c1 => ?_) (fun c1 => bad _)
    refine av_wp_sqF ck_121 3 (pc' := 31) (lv' := [some (.inr (.inr (.inl (some (0))))), some (.inl n), some (.inl l), some (.inl k), some (.inr (.inr (.inl (some t))))]) (st' := [.inl k, .inr (.inr (.inl (some t))), .inr (.inr (.inl (some (0))))]) (h' := h) rfl ?_
    refine wq_cv (p' := 34) (av_qc (.invokevirtual 259) 33 1 0 1) 4 cd_33 [.inl k] (t) 1 [some (.inr (.inr (.inl (some t)))), some (.inl k), none, none] (ck_121 _ _ rfl) rfl rfl pp_33 rfl rfl rfl (congrArg Prod.fst (co_kt o)) rfl rfl rfl rfl ?_
    refine ct_33 I.1 o k (by omega) (fun h1 t1 c1 cb1 A1 o1 => ?_)
    have I1 := IC_al hg I A1
    have s12 := co_s12 o
    show av_wp _ cd_121 34 [some (.inr (.inr (.inl (some (0))))), some (.inl n), some (.inl l), some (.inl k), some (.inr (.inr (.inl (some t))))] [.inr (.inr (.inl (some t1))), .inr (.inr (.inl (some (0))))] h1 _
    refine av_wp_sqF ck_121 2 (pc' := 36) (lv' := [some (.inr (.inr (.inl (some (0))))), some (.inl n), some (.inl l), some (.inl k), some (.inr (.inr (.inl (some t))))]) (st' := [.inl l, .inl n, .inr (.inr (.inl (some t1))), .inr (.inr (.inl (some (0))))]) (h' := h1) rfl ?_
    refine wq_cv (p' := 39) (av_qc (.invokevirtual 255) 122 3 0 7) 4 cd_122 [.inl l, .inl n, .inr (.inr (.inl (some t1)))] (0) 7 [some (.inr (.inr (.inl (some (0))))), some (.inr (.inr (.inl (some t1)))), some (.inl n), some (.inl l)] (ck_121 _ _ rfl) rfl rfl pp_122 rfl rfl rfl (congrArg Prod.fst (ly_k I1.1 0 rfl)) rfl rfl rfl rfl ?_
    refine ct_122 I1 o1 n (by omega) l (by omega) (fun w h2 I2 F2 => ?_)
    show av_wp _ cd_121 39 [some (.inr (.inr (.inl (some (0))))), some (.inl n), some (.inl l), some (.inl k), some (.inr (.inr (.inl (some t))))] [.inl w] h2 _
    exact av_wp_ret (v := some (.inl w)) rfl rfl rfl (hq _ h1 h2 3 (4 + 42 * s) (by omega) (by omega) A1 I2 F2)

theorem op_120 {h : av_H} (B : BK h) (x1 x2 x3 : Int) (q1 : -2147483648 ≤ x1 ∧ x1 ≤ 2147483647) (q2 : -2147483648 ≤ x2 ∧ x2 ≤ 2147483647) (q3 : -2147483648 ≤ x3 ∧ x3 ≤ 2147483647) : av_wp none cd_120 0 [some (.inr (.inr (.inl (some (0))))), some (.inl x1), some (.inl x2), some (.inl x3), none] [] h (OPr cd_211 [some (.inr (.inr (.inl (some (77))))), some (.inl x1), some (.inl x2), some (.inl x3)] h (fun _ _ => True)) := by
  refine gd_of (fun hg => ct_120 B.1 x1 q1 x2 q2 x3 q3 (fun v g h1 a b ha hb A I1 F1 => ⟨v, rfl, ly_k I1.1 77 rfl, gd_of (fun hg1 => ?_)⟩))
  have G0 : av_Gd g := fun q hq => by rw [show g.1 = h1.1 from F1.1.symm]; exact hg1 q (by rw [show h1.2.2.1 q = g.2.2.1 q from congrFun F1.2.2.1 q]; exact hq)
  have B1 := BK_Fr G0 (BK_al hg B A) F1 I1
  obtain ⟨n, a', m, M⟩ := B1.2.2.1
  refine ct_211 M (FM_rf h1) x1 q1 x2 q2 x3 q3 (fun w n' a'' m' h2 M2 F2 => ⟨w, rfl, trivial, BK_FM hg1 B1 F2 M2, ?_⟩)
  have e1 := F2.1
  have e2 := F2.2.1
  have e3 := F1.1
  have e4 := F1.2.1
  have e5 := A.1
  have e6 := A.2.1
  exact ⟨by omega, by omega⟩

theorem op_121 {h : av_H} (B : BK h) (x1 x2 x3 : Int) (q1 : -2147483648 ≤ x1 ∧ x1 ≤ 2147483647) (q2 : -2147483648 ≤ x2 ∧ x2 ≤ 2147483647) (q3 : -2147483648 ≤ x3 ∧ x3 ≤ 2147483647) : av_wp none cd_121 0 [some (.inr (.inr (.inl (some (0))))), some (.inl x1), some (.inl x2), some (.inl x3), none] [] h (OPr cd_212 [some (.inr (.inr (.inl (some (77))))), some (.inl x1), some (.inl x2), some (.inl x3), none] h (fun _ _ => True)) := by
  refine gd_of (fun hg => ct_121 B.1 x1 q1 x2 q2 x3 q3 (fun v g h1 a b ha hb A I1 F1 => ⟨v, rfl, ly_k I1.1 77 rfl, gd_of (fun hg1 => ?_)⟩))
  have G0 : av_Gd g := fun q hq => by rw [show g.1 = h1.1 from F1.1.symm]; exact hg1 q (by rw [show h1.2.2.1 q = g.2.2.1 q from congrFun F1.2.2.1 q]; exact hq)
  have B1 := BK_Fr G0 (BK_al hg B A) F1 I1
  obtain ⟨n, a', m, M⟩ := B1.2.2.1
  refine ct_212 M (FM_rf h1) x1 q1 x2 q2 x3 q3 (fun w n' a'' m' h2 M2 F2 => ⟨w, rfl, trivial, BK_FM hg1 B1 F2 M2, ?_⟩)
  have e1 := F2.1
  have e2 := F2.2.1
  have e3 := F1.1
  have e4 := F1.2.1
  have e5 := A.1
  have e6 := A.2.1
  exact ⟨by omega, by omega⟩
end
section
/-! THE START: both objects made -/
theorem av_wp_cl {cd : List (Nat × av_E)} {lv : av_L} {h : av_H} {Q : Option av_V → av_H → Prop} (n : Nat) (v : Option av_V) (h' : av_H) (hr : av_run av_PP none n cd 0 lv [] h = some (v, h')) (hq : Q v h') : av_wp none cd 0 lv [] h Q := fun _ => ⟨n, v, h', hr, hq⟩
theorem av_get {o : Option (Option av_V × av_H)} {d : av_H} (f : Option av_V → Bool) (hf : (match o with
    | some q => f q.1
    | none => false) = true) : ∃ v, f v = true ∧ o = some (v, (o.getD (none, d)).2) := by
  cases o with
  | none => cases hf
  | some q => exact ⟨q.1, hf, rfl⟩
def av_isN : Option av_V → Bool
  | none => true
  | _ => false
theorem av_isN_eq {v : Option av_V} (h : av_isN v = true) : v = none := by
  cases v with
  | none => rfl
  | some u => cases h
def av_h1 : av_H := ((av_run av_PP none 4000 cd_93 0 [some (.inr (.inr (.inl (some 0))))] [] (av_newO 7 9 av_h0)).getD (none, av_h0)).2
set_option maxRecDepth 100000 in
set_option maxHeartbeats 8000000 in
theorem av_h1_ok : av_run av_PP none 4000 cd_93 0 [some (.inr (.inr (.inl (some 0))))] [] (av_newO 7 9 av_h0) = some (none, av_h1) := by
  obtain ⟨v, hv, h⟩ := av_get (o := av_run av_PP none 4000 cd_93 0 [some (.inr (.inr (.inl (some 0))))] [] (av_newO 7 9 av_h0)) (d := av_h0) av_isN (by decide +kernel)
  rw [av_isN_eq hv] at h
  exact h
def av_h3 : av_H := ((av_run av_PP none 4000 cd_126 0 [some (.inr (.inr (.inl (some 77))))] [] (av_newO 8 63 av_h1)).getD (none, av_h0)).2
set_option maxRecDepth 100000 in
set_option maxHeartbeats 8000000 in
theorem av_h3_ok : av_run av_PP none 4000 cd_126 0 [some (.inr (.inr (.inl (some 77))))] [] (av_newO 8 63 av_h1) = some (none, av_h3) := by
  obtain ⟨v, hv, h⟩ := av_get (o := av_run av_PP none 4000 cd_126 0 [some (.inr (.inr (.inl (some 77))))] [] (av_newO 8 63 av_h1)) (d := av_h0) av_isN (by decide +kernel)
  rw [av_isN_eq hv] at h
  exact h
set_option maxRecDepth 100000 in
set_option maxHeartbeats 16000000 in
theorem h3_z0 : hA av_h3 2 = (fun _ => 0) ∧ hA av_h3 6 = (fun _ => 0) ∧ hA av_h3 7 = (fun _ => 0) ∧ hA av_h3 8 = (fun _ => 0) ∧ hA av_h3 9 = (fun _ => 0) ∧ hA av_h3 10 = (fun _ => 0) ∧ hA av_h3 11 = (fun _ => 0) ∧ hA av_h3 12 = (fun _ => 0) ∧ hA av_h3 13 = (fun _ => 0) ∧ hA av_h3 15 = (fun _ => 0) ∧ hA av_h3 16 = (fun _ => 0) ∧ hA av_h3 17 = (fun _ => 0) ∧ hA av_h3 18 = (fun _ => 0) ∧ hA av_h3 19 = (fun _ => 0) ∧ hA av_h3 20 = (fun _ => 0) ∧ hA av_h3 23 = (fun _ => 0) ∧ hA av_h3 25 = (fun _ => 0) ∧ hA av_h3 30 = (fun _ => 0) ∧ hA av_h3 34 = (fun _ => 0) ∧ hA av_h3 47 = (fun _ => 0) ∧ hA av_h3 60 = (fun _ => 0) ∧ hA av_h3 73 = (fun _ => 0) ∧ hA av_h3 76 = (fun _ => 0) := ⟨rfl, rfl, rfl, rfl, rfl, rfl, rfl, rfl, rfl, rfl, rfl, rfl, rfl, rfl, rfl, rfl, rfl, rfl, rfl, rfl, rfl, rfl, rfl⟩
set_option maxRecDepth 100000 in
set_option maxHeartbeats 16000000 in
theorem h3_z1 : hA av_h3 78 = (fun _ => 0) ∧ hA av_h3 79 = (fun _ => 0) ∧ hA av_h3 80 = (fun _ => 0) ∧ hA av_h3 81 = (fun _ => 0) ∧ hA av_h3 82 = (fun _ => 0) ∧ hA av_h3 83 = (fun _ => 0) ∧ hA av_h3 84 = (fun _ => 0) ∧ hA av_h3 85 = (fun _ => 0) ∧ hA av_h3 86 = (fun _ => 0) ∧ hA av_h3 87 = (fun _ => 0) ∧ hA av_h3 88 = (fun _ => 0) ∧ hA av_h3 89 = (fun _ => 0) ∧ hA av_h3 90 = (fun _ => 0) ∧ hA av_h3 91 = (fun _ => 0) ∧ hA av_h3 92 = (fun _ => 0) ∧ hA av_h3 93 = (fun _ => 0) ∧ hA av_h3 94 = (fun _ => 0) := ⟨rfl, rfl, rfl, rfl, rfl, rfl, rfl, rfl, rfl, rfl, rfl, rfl, rfl, rfl, rfl, rfl, rfl⟩
set_option maxRecDepth 100000 in
set_option maxHeartbeats 16000000 in
theorem h3_z2 : hA av_h3 95 = (fun _ => 0) ∧ hA av_h3 96 = (fun _ => 0) ∧ hA av_h3 97 = (fun _ => 0) ∧ hA av_h3 98 = (fun _ => 0) ∧ hA av_h3 99 = (fun _ => 0) ∧ hA av_h3 100 = (fun _ => 0) ∧ hA av_h3 101 = (fun _ => 0) ∧ hA av_h3 102 = (fun _ => 0) ∧ hA av_h3 103 = (fun _ => 0) ∧ hA av_h3 104 = (fun _ => 0) ∧ hA av_h3 105 = (fun _ => 0) ∧ hA av_h3 106 = (fun _ => 0) ∧ hA av_h3 107 = (fun _ => 0) ∧ hA av_h3 108 = (fun _ => 0) := ⟨rfl, rfl, rfl, rfl, rfl, rfl, rfl, rfl, rfl, rfl, rfl, rfl, rfl, rfl⟩
set_option maxRecDepth 100000 in
set_option maxHeartbeats 16000000 in
theorem h3_z3 : hA av_h3 109 = (fun _ => 0) ∧ hA av_h3 110 = (fun _ => 0) ∧ hA av_h3 111 = (fun _ => 0) ∧ hA av_h3 112 = (fun _ => 0) ∧ hA av_h3 113 = (fun _ => 0) ∧ hA av_h3 114 = (fun _ => 0) ∧ hA av_h3 115 = (fun _ => 0) ∧ hA av_h3 116 = (fun _ => 0) ∧ hA av_h3 117 = (fun _ => 0) ∧ hA av_h3 118 = (fun _ => 0) ∧ hA av_h3 119 = (fun _ => 0) ∧ hA av_h3 120 = (fun _ => 0) ∧ hA av_h3 121 = (fun _ => 0) := ⟨rfl, rfl, rfl, rfl, rfl, rfl, rfl, rfl, rfl, rfl, rfl, rfl, rfl⟩
end
