section
/-! ALL COMBOS OF A SEATED CASE, exactly -/
set_option maxRecDepth 100000 in
set_option maxHeartbeats 4000000 in
theorem cx_55 {g h : av_H} {b t c s r : Nat} {cb : Int} {u ro : Nat → Int} {a : Nat → Nat → Int} {mb mo ma : Int} (E : EB b t c s r cb u ro a mb mo ma h) (F : FN b g h) {bar : Nat → Int} (G : SEA u ro bar s) (T : TKR u ro bar s a) (hz : HZ u a) (x : Int) (qx : 0 ≤ x ∧ x ≤ 1023) {Q : Option av_V → av_H → Prop} (hq : ∀ (v : Int) h' a' m1 m2 m3, EB b t c s r cb u ro a' m1 m2 m3 h' → FN b g h' → HZ u a' → TKR u ro bar s a' → ((v = -1 ∧ ∀ y : Int, 0 ≤ y → y < cb → (bgn u ro bar s y).2.2 ≠ 9999) ∨ ((0 ≤ v ∧ v < cb) ∧ ¬ (bgn u ro bar s v).2.2 ≠ 9999)) → Q (some (.inl v)) h') : av_wp none cd_55 0 [some (.inr (.inr (.inl (some (b))))), some (.inl x), none, none] [] h Q := by
  have s12 := co_s12 (ib_co E.1)
  have cbr := co_cbr (ib_co E.1)
  have mbr := eb_xr E
  have mor := eb_yr E
  refine av_wp_sqF ck_55 4 (pc' := 4) (lv' := [some (.inr (.inr (.inl (some (b))))), some (.inl x), some (.inl x), some (.inl (0))]) (st' := []) (h' := h) rfl ?_
  have L14 : ∀ (m13 : Nat) (k1 : Int) (k2 : Int) (h3 : av_H) (a6 : Nat → Nat → Int) (m8 : Int) (m9 : Int) (m10 : Int), (0 < cb → k2 ≤ cb) → (0 ≤ k1 ∧ k1 ≤ 1024) → (0 ≤ k2 ∧ k2 ≤ 1024) → EB b t c s r cb u ro a6 m8 m9 m10 h3 → FN b g h3 → TKR u ro bar s a6 → HZ u a6 → (0 < cb → RND (fun x => (bgn u ro bar s x).2.2 ≠ 9999) cb k2 k1) → (1024 - k2).toNat = m13 → av_wp none cd_55 4 [some (.inr (.inr (.inl (some (b))))), some (.inl x), some (.inl k1), some (.inl k2)] [] h3 Q := by
    intro m13
    induction m13 using Nat.strongRecOn with
    | _ m13 I15 =>
      intro k1 k2 h3 a6 m8 m9 m10 g17 g18 g19 E4 F5 T11 Z12 X7 e16
      refine av_wp_sqF ck_55 2 (pc' := 6) (lv' := [some (.inr (.inr (.inl (some (b))))), some (.inl x), some (.inl k1), some (.inl k2)]) (st' := [.inr (.inr (.inl (some (b)))), .inl k2]) (h' := h3) rfl ?_
      refine wq_gr (p' := 9) (ck_55 _ _ rfl) rfl (congrArg Prod.fst (ib_k0 E4.1)) rfl (ib_t E4.1) ?_
      refine wq_gi (p' := 12) (ck_55 _ _ rfl) rfl (congrArg Prod.fst (co_kt (ib_co E4.1))) rfl (co_cb (ib_co E4.1)) ?_
      refine wq_k2 (p' := 15) (ck_55 _ _ rfl) rfl ⟨by omega, by omega⟩ ⟨by omega, by omega⟩ (fun c20 => ?_) (fun c21 => ?_)
      · have c20 : cb ≤ k2 := c20
        refine av_wp_sqF ck_55 1 (pc' := 56) (lv' := [some (.inr (.inr (.inl (some (b))))), some (.inl x), some (.inl k1), some (.inl k2)]) (st' := [.inl (-1)]) (h' := h3) rfl ?_
        refine av_wp_ret (v := some (.inl (-1))) (ck_55 _ _ rfl) rfl rfl ?_
        exact hq _ h3 _ _ _ _ E4 F5 Z12 T11 (Or.inl ⟨rfl, fun y y1 y2 => RND_e (X7 (by omega)) (by omega) y y1 y2⟩)
      · have c21 : k2 < cb := c21
        refine av_wp_sqF ck_55 1 (pc' := 16) (lv' := [some (.inr (.inr (.inl (some (b))))), some (.inl x), some (.inl k1), some (.inl k2)]) (st' := [.inl k1]) (h' := h3) rfl ?_
        refine wq_k1 (p' := 19) (ck_55 _ _ rfl) rfl ⟨by omega, by omega⟩ (fun c22 => ?_) (fun c23 => ?_)
        · have c22 : k1 < (0) := c22
          exfalso; omega
        · have c23 : (0) ≤ k1 := c23
          refine av_wp_sqF ck_55 2 (pc' := 21) (lv' := [some (.inr (.inr (.inl (some (b))))), some (.inl x), some (.inl k1), some (.inl k2)]) (st' := [.inr (.inr (.inl (some (b)))), .inl k1]) (h' := h3) rfl ?_
          refine wq_gr (p' := 24) (ck_55 _ _ rfl) rfl (congrArg Prod.fst (ib_k0 E4.1)) rfl (ib_t E4.1) ?_
          refine wq_gi (p' := 27) (ck_55 _ _ rfl) rfl (congrArg Prod.fst (co_kt (ib_co E4.1))) rfl (co_cb (ib_co E4.1)) ?_
          refine wq_k2 (p' := 30) (ck_55 _ _ rfl) rfl ⟨by omega, by omega⟩ ⟨by omega, by omega⟩ (fun c24 => ?_) (fun c25 => ?_)
          · have c24 : cb ≤ k1 := c24
            refine av_wp_sqF ck_55 2 (pc' := 36) (lv' := [some (.inr (.inr (.inl (some (b))))), some (.inl x), some (.inl (0)), some (.inl k2)]) (st' := []) (h' := h3) rfl ?_
            have q26 : (0) = nrm cb k1 := by unfold nrm; split <;> omega
            refine av_wp_sqF ck_55 2 (pc' := 38) (lv' := [some (.inr (.inr (.inl (some (b))))), some (.inl x), some (.inl (0)), some (.inl k2)]) (st' := [.inl (0), .inr (.inr (.inl (some (b))))]) (h' := h3) rfl ?_
            refine wq_cv (p' := 41) (av_qc (.invokevirtual 89) 2 1 0 0) 2 cd_2 [.inl (0)] (b) 0 [some (.inr (.inr (.inl (some (b))))), some (.inl (0))] (ck_55 _ _ rfl) rfl rfl pp_2 rfl rfl rfl (congrArg Prod.fst (ib_k0 E4.1)) rfl rfl rfl rfl ?_
            refine cy_2 E4 F5 G T11 Z12 ((0)) (by omega) (fun v27 h28 a29 m30 m31 m32 E33 F34 Z35 T36 D37 B38 R39 p40 => ?_)
            show av_wp _ cd_55 41 [some (.inr (.inr (.inl (some (b))))), some (.inl x), some (.inl (0)), some (.inl k2)] [.inl v27] h28 _
            refine wq_k1 (p' := 44) (ck_55 _ _ rfl) rfl ⟨by omega, by omega⟩ (fun c41 => ?_) (fun c42 => ?_)
            · have c41 : v27 ≠ (0) := c41
              refine av_wp_sqF ck_55 3 (pc' := 4) (lv' := [some (.inr (.inr (.inl (some (b))))), some (.inl x), some (.inl (1)), some (.inl (k2 + (1)))]) (st' := []) (h' := h28) rfl ?_
              exact I15 _ (by omega) ((1)) ((k2 + (1))) h28 a29 (m30) (m31) (m32) (by omega) (by omega) (by omega) E33 F34 T36 Z35 (fun z => RND_s (X7 z) (by omega) q26 (by show (bgn u ro bar s (0)).2.2 ≠ 9999; rw [B38]; show m32 ≠ 9999; omega)) rfl
            · have c42 : v27 = (0) := c42
              refine av_wp_sqF ck_55 1 (pc' := 45) (lv' := [some (.inr (.inr (.inl (some (b))))), some (.inl x), some (.inl (0)), some (.inl k2)]) (st' := [.inl (0)]) (h' := h28) rfl ?_
              refine av_wp_ret (v := some (.inl (0))) (ck_55 _ _ rfl) rfl rfl ?_
              exact hq _ h28 _ _ _ _ E33 F34 Z35 T36 (Or.inr ⟨⟨by omega, by omega⟩, fun z => z (by rw [B38]; show m32 = 9999; omega)⟩)
          · have c25 : k1 < cb := c25
            refine av_wp_sqF ck_55 3 (pc' := 36) (lv' := [some (.inr (.inr (.inl (some (b))))), some (.inl x), some (.inl k1), some (.inl k2)]) (st' := []) (h' := h3) rfl ?_
            have q43 : k1 = nrm cb k1 := by unfold nrm; split <;> omega
            refine av_wp_sqF ck_55 2 (pc' := 38) (lv' := [some (.inr (.inr (.inl (some (b))))), some (.inl x), some (.inl k1), some (.inl k2)]) (st' := [.inl k1, .inr (.inr (.inl (some (b))))]) (h' := h3) rfl ?_
            refine wq_cv (p' := 41) (av_qc (.invokevirtual 89) 2 1 0 0) 2 cd_2 [.inl k1] (b) 0 [some (.inr (.inr (.inl (some (b))))), some (.inl k1)] (ck_55 _ _ rfl) rfl rfl pp_2 rfl rfl rfl (congrArg Prod.fst (ib_k0 E4.1)) rfl rfl rfl rfl ?_
            refine cy_2 E4 F5 G T11 Z12 (k1) (by omega) (fun v44 h45 a46 m47 m48 m49 E50 F51 Z52 T53 D54 B55 R56 p57 => ?_)
            show av_wp _ cd_55 41 [some (.inr (.inr (.inl (some (b))))), some (.inl x), some (.inl k1), some (.inl k2)] [.inl v44] h45 _
            refine wq_k1 (p' := 44) (ck_55 _ _ rfl) rfl ⟨by omega, by omega⟩ (fun c58 => ?_) (fun c59 => ?_)
            · have c58 : v44 ≠ (0) := c58
              refine av_wp_sqF ck_55 3 (pc' := 4) (lv' := [some (.inr (.inr (.inl (some (b))))), some (.inl x), some (.inl (k1 + (1))), some (.inl (k2 + (1)))]) (st' := []) (h' := h45) rfl ?_
              exact I15 _ (by omega) ((k1 + (1))) ((k2 + (1))) h45 a46 (m47) (m48) (m49) (by omega) (by omega) (by omega) E50 F51 T53 Z52 (fun z => RND_s (X7 z) (by omega) q43 (by show (bgn u ro bar s k1).2.2 ≠ 9999; rw [B55]; show m49 ≠ 9999; omega)) rfl
            · have c59 : v44 = (0) := c59
              refine av_wp_sqF ck_55 1 (pc' := 45) (lv' := [some (.inr (.inr (.inl (some (b))))), some (.inl x), some (.inl k1), some (.inl k2)]) (st' := [.inl k1]) (h' := h45) rfl ?_
              refine av_wp_ret (v := some (.inl k1)) (ck_55 _ _ rfl) rfl rfl ?_
              exact hq _ h45 _ _ _ _ E50 F51 Z52 T53 (Or.inr ⟨⟨by omega, by omega⟩, fun z => z (by rw [B55]; show m49 = 9999; omega)⟩)
  exact L14 _ (x) ((0)) h a (mb) (mo) (ma) (by omega) (by omega) (by omega) E F T hz (fun z => RND_0 z) rfl
end
section
/-! THE CLASS'S CASES AS PICTURES: cells U i, sizes S i -/
def CSP (U : Nat → Nat → Int) (S : Nat → Nat) (n : Int) (h : av_H) : Prop := hF h 3 3 = n ∧ (0 ≤ n ∧ n ≤ 16) ∧ ∀ i : Nat, (i : Int) < n → ∃ t c, hR h 4 i = some t ∧ CO h t c (S i) (cbv (U i) (S i)) ∧ hA h c = U i
/-- a case as texts make it, the i-th -/
def CWF (U : Nat → Int) (s i : Nat) : Prop := UW U s ∧ (1 ≤ s ∧ s ≤ 12) ∧ (∀ k, k < s → -1 ≤ U (21 * k + 6) ∧ U (21 * k + 6) < (i : Int)) ∧ (∀ q, q < s → U (21 * q + 20) = tnv U q) ∧ (∀ j, U j ≤ 2000 ∨ j % 21 = 20) ∧ (∀ x : Int, 0 ≤ x → x ≤ 1023 → ∀ k, k < s → ∀ j, j < 3 → -1 ≤ hrv U x k j ∧ hrv U x k j ≤ 5000)
/-- rows that don't belong to the benches, to what is sure and to what is needed stay -/
def FJ (g h : av_H) : Prop := Fr g h ∧ hG h = hG g ∧ hF h = hF g ∧ ∀ q, q ≠ 27 → q ≠ 28 → hA h q = hA g q
theorem FJ_rf (h : av_H) : FJ h h := ⟨Fr_rf h, rfl, rfl, fun _ _ _ => rfl⟩
theorem FJ_tr {g h k : av_H} (a : FJ g h) (b : FJ h k) : FJ g k := ⟨Fr_tr a.1 b.1, b.2.1.trans a.2.1, b.2.2.1.trans a.2.2.1, fun q e1 e2 => (b.2.2.2 q e1 e2).trans (a.2.2.2 q e1 e2)⟩
theorem FJ_w {g h : av_H} {q i : Nat} {v : Int} (F : FJ g h) (hq : q = 27 ∨ q = 28) : FJ g (hwA h q i v) := ⟨Fr_wA F.1 (by rcases hq with e | e <;> subst e <;> rfl), F.2.1, F.2.2.1, fun p e1 e2 => by
  rw [hA_ne (by omega)]
  exact F.2.2.2 p e1 e2⟩
theorem CSP_fr {U : Nat → Nat → Int} {S : Nat → Nat} {n : Int} {g h : av_H} (L : LY g) (x : CSP U S n g) (F : Fr g h) : CSP U S n h := by
  obtain ⟨x1, x2, x3⟩ := x
  refine ⟨(F.2.2.2.2.2.1 3 3 rfl).trans x1, x2, fun i hi => ?_⟩
  obtain ⟨t, c, y1, y2, y3⟩ := x3 i hi
  exact ⟨t, c, by rw [F.2.2.2.1]; exact y1, CO_fr L y2 F, (F.2.2.2.2.2.2 c (sA_cells y2.2.2.2.2.2.2.2.1)).trans y3⟩
/-- the class between calls of its court -/
def CJ (U : Nat → Nat → Int) (S : Nat → Nat) (n : Int) (sr nd : Nat → Int) (h : av_H) : Prop := IC h ∧ CSP U S n h ∧ hA h 27 = sr ∧ hA h 28 = nd
section
variable {U : Nat → Nat → Int} {S : Nat → Nat} {n : Int} {sr nd : Nat → Int} {g h : av_H}
theorem cj_27 (x : CJ U S n sr nd h) (i : Nat) (v : Int) : CJ U S n (av_u1 sr i v) nd (hwA h 27 i v) := by
  have F : Fr h (hwA h 27 i v) := Fr_wA (Fr_rf h) rfl
  exact ⟨IC_wA x.1 rfl (fun z => by cases z), CSP_fr x.1.1 x.2.1 F, by rw [hA_wu, x.2.2.1], (hA_ne (by decide)).trans x.2.2.2⟩
theorem cj_28 (x : CJ U S n sr nd h) (i : Nat) (v : Int) : CJ U S n sr (av_u1 nd i v) (hwA h 28 i v) := by
  have F : Fr h (hwA h 28 i v) := Fr_wA (Fr_rf h) rfl
  exact ⟨IC_wA x.1 rfl (fun z => by cases z), CSP_fr x.1.1 x.2.1 F, (hA_ne (by decide)).trans x.2.2.1, by rw [hA_wu, x.2.2.2]⟩
end
section
variable {sc : av_Sr} {cd : List (Nat × av_E)} {Q : Option av_V → av_H → Prop} {pc p' : Nat} {lv : av_L} {r' : List av_V} {g h : av_H} {U : Nat → Nat → Int} {S : Nat → Nat} {n : Int} {sr nd : Nat → Int}
theorem xj_28 {i v : Int} (hx : cd.lookup pc = some (av_q (.bastore))) (hp : pc + 1 = p') (x : CJ U S n sr nd h) (F : FJ g h) (hi : 0 ≤ i ∧ i < 16) (hv : v = 0 ∨ v = 1) (hw : ∀ h', CJ U S n sr (av_u1 nd i.toNat v) h' → FJ g h' → av_wp sc cd p' lv r' h' Q) : av_wp sc cd pc lv (.inl v :: .inl i :: .inr (.inr (.inl (some 28))) :: r') h Q :=
  wq_zs (n := 16) hx hp (ly_k x.1.1 28 rfl) (by omega) hv (hw _ (cj_28 x _ _) (FJ_w F (Or.inr rfl)))
theorem xj_27 {i v : Int} (hx : cd.lookup pc = some (av_q (.iastore))) (hp : pc + 1 = p') (x : CJ U S n sr nd h) (F : FJ g h) (hi : 0 ≤ i ∧ i < 144) (hw : ∀ h', CJ U S n (av_u1 sr i.toNat v) nd h' → FJ g h' → av_wp sc cd p' lv r' h' Q) : av_wp sc cd pc lv (.inl v :: .inl i :: .inr (.inr (.inl (some 27))) :: r') h Q :=
  wq_as (n := 144) hx hp (ly_k x.1.1 27 rfl) (by omega) (hw _ (cj_27 x _ _) (FJ_w F (Or.inl rfl)))
end
/-! what is needed -/
def gvn (u : Nat → Int) (s j : Nat) : Prop := ∃ k, k < s ∧ u (21 * k + 6) = (j : Int) ∧ j < 16
/-- the first k sayings' givens are marked -/
def MGI (u : Nat → Int) (nd : Nat → Int) (k : Nat) (nd' : Nat → Int) : Prop := (∀ j, j < 16 → (nd' j = 1 ↔ (nd j = 1 ∨ gvn u k j))) ∧ ∀ j, j < 16 → 0 ≤ nd' j ∧ nd' j ≤ 1
section
variable {u nd nd' : Nat → Int} {k : Nat} {v : Int}
theorem MGI_0 (h : ∀ j, j < 16 → 0 ≤ nd j ∧ nd j ≤ 1) : MGI u nd 0 nd := ⟨fun j _ => ⟨Or.inl, fun z => z.elim id (fun ⟨k, hk, _⟩ => by omega)⟩, h⟩
theorem MGI_n (x : MGI u nd k nd') (e : u (21 * k + 6) = v) (h : v < 0 ∨ 16 ≤ v) : MGI u nd (k + 1) nd' := by
  refine ⟨fun j hj => ?_, x.2⟩
  rw [x.1 j hj]
  constructor
  · rintro (z | ⟨q, q1, q2, q3⟩)
    · exact Or.inl z
    · exact Or.inr ⟨q, by omega, q2, q3⟩
  · rintro (z | ⟨q, q1, q2, q3⟩)
    · exact Or.inl z
    · by_cases c : q = k
      · rw [c, e] at q2
        omega
      · exact Or.inr ⟨q, by omega, q2, q3⟩
theorem MGI_s (x : MGI u nd k nd') (e : u (21 * k + 6) = v) (h : 0 ≤ v ∧ v < 16) : MGI u nd (k + 1) (av_u1 nd' v.toNat 1) := by
  refine ⟨fun j hj => ?_, fun j hj => ?_⟩
  · by_cases c : j = v.toNat
    · rw [c, u1_eq]
      exact ⟨fun _ => Or.inr ⟨k, by omega, by rw [e]; omega, by omega⟩, fun _ => rfl⟩
    · rw [u1_ne c, x.1 j hj]
      constructor
      · rintro (z | ⟨q, q1, q2, q3⟩)
        · exact Or.inl z
        · exact Or.inr ⟨q, by omega, q2, q3⟩
      · rintro (z | ⟨q, q1, q2, q3⟩)
        · exact Or.inl z
        · by_cases d : q = k
          · rw [d, e] at q2
            omega
          · exact Or.inr ⟨q, by omega, q2, q3⟩
  · by_cases c : j = v.toNat
    · rw [c, u1_eq]
      omega
    · rw [u1_ne c]
      exact x.2 j hj
end
/-- what is needed has what it needs marked: those above j -/
def NDI (U : Nat → Nat → Int) (S : Nat → Nat) (u : Nat → Int) (s : Nat) (m : Nat) (j : Int) (nd : Nat → Int) : Prop := (∀ i, i < 16 → 0 ≤ nd i ∧ nd i ≤ 1) ∧ (∀ g, gvn u s g → nd g = 1) ∧ ∀ i : Nat, j < (i : Int) → i < m → nd i = 1 → ∀ g, gvn (U i) (S i) g → nd g = 1
theorem gvn_l {u : Nat → Int} {s j : Nat} (x : gvn u s j) : j < 16 := by
  obtain ⟨_, _, _, h⟩ := x
  exact h
theorem NDI_0 {U : Nat → Nat → Int} {S : Nat → Nat} {u : Nat → Int} {s m : Nat} {nd nd' : Nat → Int} (M : MGI u nd s nd') : NDI U S u s m ((m : Int) - 1) nd' := ⟨M.2, fun g hg => (M.1 g (gvn_l hg)).mpr (Or.inr hg), fun i h1 h2 => by omega⟩
theorem NDI_s {U : Nat → Nat → Int} {S : Nat → Nat} {u : Nat → Int} {s m : Nat} {j : Int} {nd nd' : Nat → Int} (x : NDI U S u s m j nd) (hj : 0 ≤ j) (hm : m ≤ 16) (W : ∀ k, k < S j.toNat → U j.toNat (21 * k + 6) < j) (M : MGI (U j.toNat) nd (S j.toNat) nd') : NDI U S u s m (j - 1) nd' := by
  refine ⟨M.2, fun g hg => (M.1 g (gvn_l hg)).mpr (Or.inl (x.2.1 g hg)), fun i h1 h2 h3 g hg => ?_⟩
  by_cases c : i = j.toNat
  · subst c
    exact (M.1 g (gvn_l hg)).mpr (Or.inr hg)
  · refine (M.1 g (gvn_l hg)).mpr (Or.inl (x.2.2 i (by omega) h2 ?_ g hg))
    rcases (M.1 i (by omega)).mp h3 with z | ⟨q, q1, q2, q3⟩
    · exact z
    · have := W q q1
      omega
theorem NDI_n {U : Nat → Nat → Int} {S : Nat → Nat} {u : Nat → Int} {s m : Nat} {j : Int} {nd : Nat → Int} (x : NDI U S u s m j nd) (hj : 0 ≤ j) (h : nd j.toNat = 0) : NDI U S u s m (j - 1) nd := by
  refine ⟨x.1, x.2.1, fun i h1 h2 h3 g hg => ?_⟩
  by_cases c : i = j.toNat
  · rw [c, h] at h3
    omega
  · exact x.2.2 i (by omega) h2 h3 g hg
/-! what is sure -/
def SUI (U : Nat → Nat → Int) (S : Nat → Nat) (ro : Nat → Int) (y : Int) (m : Nat) (sr : Nat → Int) : Prop := ∀ i, i < m → sr (y.toNat + i) = 0 ∨ sr (y.toNat + i) = sre U S ro i
/-- all that is needed below j is known -/
def SUJ (U : Nat → Nat → Int) (S : Nat → Nat) (ro nd : Nat → Int) (y : Int) (m : Nat) (j : Nat) (sr : Nat → Int) : Prop := SUI U S ro y m sr ∧ ∀ i, i < j → i < m → nd i = 1 → sr (y.toNat + i) = sre U S ro i
/-- nothing is left to mark -/
theorem NDI_m {U : Nat → Nat → Int} {S : Nat → Nat} {u : Nat → Int} {s m : Nat} {j : Int} {nd : Nat → Int} (x : NDI U S u s m j nd) (hj : j < 0) : NDI U S u s m (-1) nd := ⟨x.1, x.2.1, fun i _ h2 h3 g hg => x.2.2 i (by omega) h2 h3 g hg⟩
end
section
/-! THE COURT MARKS WHAT IS NEEDED, exactly -/
set_option maxRecDepth 100000 in
set_option maxHeartbeats 4000000 in
theorem cz_69 {h : av_H} {U : Nat → Nat → Int} {S : Nat → Nat} {n : Int} {sr nd : Nat → Int} (C : CJ U S n sr nd h) (k : Int) (qk : -2147483648 ≤ k ∧ k ≤ 2147483647) {Q : Option av_V → av_H → Prop} (hq0 : (k < 0 ∨ n ≤ k) → Q (some (.inr (.inr (.inl none)))) h) (hq1 : 0 ≤ k → k < n → ∀ t c, CO h t c (S (Int.toNat k)) (cbv (U (Int.toNat k)) (S (Int.toNat k))) → hA h c = U (Int.toNat k) → Q (some (.inr (.inr (.inl (some t))))) h) : av_wp none cd_69 0 [some (.inr (.inr (.inl (some (3))))), some (.inl k)] [] h Q := by
  have F := FJ_rf h
  have nr := C.2.1.2.1
  refine av_wp_sqF ck_69 1 (pc' := 1) (lv' := [some (.inr (.inr (.inl (some (3))))), some (.inl k)]) (st' := [.inl k]) (h' := h) rfl ?_
  refine wq_k1 (p' := 4) (ck_69 _ _ rfl) rfl ⟨by omega, by omega⟩ (fun c1 => ?_) (fun c2 => ?_)
  · have c1 : k < (0) := c1
    refine av_wp_sqF ck_69 1 (pc' := 22) (lv' := [some (.inr (.inr (.inl (some (3))))), some (.inl k)]) (st' := [.inr (.inr (.inl none))]) (h' := h) rfl ?_
    refine av_wp_ret (v := some (.inr (.inr (.inl none)))) rfl rfl rfl ?_
    exact hq0 (by omega)
  · have c2 : (0) ≤ k := c2
    refine av_wp_sqF ck_69 2 (pc' := 6) (lv' := [some (.inr (.inr (.inl (some (3))))), some (.inl k)]) (st' := [.inr (.inr (.inl (some (3)))), .inl k]) (h' := h) rfl ?_
    obtain ⟨v3, e4⟩ : ∃ v, hF h 3 3 = v := ⟨_, rfl⟩
    have g5 := ic_cc C.1
    rw [e4] at g5
    have u6 : v3 = n := e4.symm.trans C.2.1.1
    refine wq_gi (p' := 9) (ck_69 _ _ rfl) rfl (congrArg Prod.fst (ly_k C.1.1 3 rfl)) rfl (e4) ?_
    refine wq_k2 (p' := 12) (ck_69 _ _ rfl) rfl ⟨by omega, by omega⟩ ⟨by omega, by omega⟩ (fun c7 => ?_) (fun c8 => ?_)
    · have c7 : v3 ≤ k := c7
      refine av_wp_sqF ck_69 1 (pc' := 22) (lv' := [some (.inr (.inr (.inl (some (3))))), some (.inl k)]) (st' := [.inr (.inr (.inl none))]) (h' := h) rfl ?_
      refine av_wp_ret (v := some (.inr (.inr (.inl none)))) rfl rfl rfl ?_
      exact hq0 (by omega)
    · have c8 : k < v3 := c8
      refine av_wp_sqF ck_69 1 (pc' := 13) (lv' := [some (.inr (.inr (.inl (some (3))))), some (.inl k)]) (st' := [.inr (.inr (.inl (some (3))))]) (h' := h) rfl ?_
      refine wq_gr (p' := 16) (ck_69 _ _ rfl) rfl (congrArg Prod.fst (ly_k C.1.1 3 rfl)) rfl (ly_g C.1.1 3 0 4 rfl) ?_
      refine av_wp_sqF ck_69 1 (pc' := 17) (lv' := [some (.inr (.inr (.inl (some (3))))), some (.inl k)]) (st' := [.inl k, .inr (.inr (.inl (some (4))))]) (h' := h) rfl ?_
      obtain ⟨t9, c10, y11, y12, y13⟩ := C.2.1.2.2 (Int.toNat (k)) (by omega)
      refine wq_ar (p' := 18) (n := 16) (k := 30) (ck_69 _ _ rfl) rfl (ly_k C.1.1 4 rfl) (by omega) (by omega) y11 ?_
      refine av_wp_sqF ck_69 1 (pc' := 22) (lv' := [some (.inr (.inr (.inl (some (3))))), some (.inl k)]) (st' := [.inr (.inr (.inl (some (t9))))]) (h' := h) rfl ?_
      refine av_wp_ret (v := some (.inr (.inr (.inl (some (t9)))))) rfl rfl rfl ?_
      exact hq1 (by omega) (by omega) _ _ y12 y13

set_option maxRecDepth 100000 in
set_option maxHeartbeats 4000000 in
theorem cx_54 {h : av_H} {U : Nat → Nat → Int} {S : Nat → Nat} {n : Int} {sr nd : Nat → Int} (C : CJ U S n sr nd h) {t c s : Nat} {cb : Int} (o : CO h t c s cb) {u : Nat → Int} (hu : hA h c = u) (nb : ∀ j, j < 16 → 0 ≤ nd j ∧ nd j ≤ 1) {Q : Option av_V → av_H → Prop} (hq : ∀ (v : Int) h' nd', CJ U S n sr nd' h' → FJ h h' → MGI u nd s nd' → ((v = 0 ∧ (∀ k : Nat, k < s → u (21 * k + 6) < 0 ∨ 16 ≤ u (21 * k + 6))) ∨ v = 1) → Q (some (.inl v)) h') : av_wp none cd_54 0 [some (.inr (.inr (.inl (some (26))))), some (.inr (.inr (.inl (some (t))))), none, none, none] [] h Q := by
  have F := FJ_rf h
  have nr := C.2.1.2.1
  have s12 := co_s12 o
  refine av_wp_sqF ck_54 4 (pc' := 4) (lv' := [some (.inr (.inr (.inl (some (26))))), some (.inr (.inr (.inl (some (t))))), some (.inl (0)), some (.inl (0)), none]) (st' := []) (h' := h) rfl ?_
  have L10 : ∀ (m9 : Nat) (k1 : Int) (k2 : Int) (a3 : Option av_V) (h4 : av_H) (n7 : Nat → Int), av_lg a3 = false → ((k1 = 0 ∧ (∀ k : Nat, k < Int.toNat k2 → u (21 * k + 6) < 0 ∨ 16 ≤ u (21 * k + 6))) ∨ k1 = 1) → k2 ≤ (s : Int) → (0 ≤ k2 ∧ k2 ≤ 12) → (0 ≤ k1 ∧ k1 ≤ 1) → CJ U S n sr n7 h4 → FJ h h4 → MGI u nd (Int.toNat k2) n7 → ((s : Int) - k2).toNat = m9 → av_wp none cd_54 4 [some (.inr (.inr (.inl (some (26))))), some (.inr (.inr (.inl (some (t))))), some (.inl k1), some (.inl k2), a3] [] h4 Q := by
    intro m9
    induction m9 using Nat.strongRecOn with
    | _ m9 I11 =>
      intro k1 k2 a3 h4 n7 g13 g14 g15 g16 g17 C5 F6 X8 e12
      have la3 := g13
      refine av_wp_sqF ck_54 2 (pc' := 6) (lv' := [some (.inr (.inr (.inl (some (26))))), some (.inr (.inr (.inl (some (t))))), some (.inl k1), some (.inl k2), a3]) (st' := [.inr (.inr (.inl (some (t)))), .inl k2]) (h' := h4) rfl ?_
      refine wq_gi (p' := 9) (ck_54 _ _ rfl) rfl (congrArg Prod.fst (co_kt (CO_fr C.1.1 o F6.1))) rfl (co_s (CO_fr C.1.1 o F6.1)) ?_
      refine wq_k2 (p' := 12) (ck_54 _ _ rfl) rfl ⟨by omega, by omega⟩ ⟨by omega, by omega⟩ (fun c18 => ?_) (fun c19 => ?_)
      · have c18 : (s : Int) ≤ k2 := c18
        refine av_wp_sqF ck_54 1 (pc' := 50) (lv' := [some (.inr (.inr (.inl (some (26))))), some (.inr (.inr (.inl (some (t))))), some (.inl k1), some (.inl k2), a3]) (st' := [.inl k1]) (h' := h4) rfl ?_
        refine wq_rb rfl (by omega) ?_
        have z20 : Int.toNat k2 = s := by omega
        rw [z20] at X8 g14
        exact hq _ h4 _ C5 F6 X8 g14
      · have c19 : k2 < (s : Int) := c19
        refine av_wp_sqF ck_54 3 (pc' := 16) (lv' := [some (.inr (.inr (.inl (some (26))))), some (.inr (.inr (.inl (some (t))))), some (.inl k1), some (.inl k2), a3]) (st' := [.inl (6), .inl k2, .inr (.inr (.inl (some (t))))]) (h' := h4) rfl ?_
        refine wq_cv (p' := 19) (av_qc (.invokevirtual 119) 29 2 0 1) 3 cd_29 [.inl (6), .inl k2] (t) 1 [some (.inr (.inr (.inl (some (t))))), some (.inl k2), some (.inl (6))] (ck_54 _ _ rfl) rfl rfl pp_29 rfl rfl rfl (congrArg Prod.fst (co_kt (CO_fr C.1.1 o F6.1))) rfl rfl rfl rfl ?_
        obtain ⟨v21, e22⟩ : ∃ v, u (21 * Int.toNat (k2) + 6) = v := ⟨_, rfl⟩
        have g23 := co_v (CO_fr C.1.1 o F6.1) (21 * Int.toNat (k2) + 6)
        rw [((F6.1.2.2.2.2.2.2 c (sA_cells o.2.2.2.2.2.2.2.1)).trans hu), e22] at g23
        refine xc_29 (CO_fr C.1.1 o F6.1) (k2) (by omega) 6 (by omega) rfl ((congrFun ((F6.1.2.2.2.2.2.2 c (sA_cells o.2.2.2.2.2.2.2.1)).trans hu) _).trans e22) ?_
        show av_wp _ cd_54 19 [some (.inr (.inr (.inl (some (26))))), some (.inr (.inr (.inl (some (t))))), some (.inl k1), some (.inl k2), a3] [.inl v21] h4 _
        refine av_wp_sqF ck_54 2 (pc' := 23) (lv' := [some (.inr (.inr (.inl (some (26))))), some (.inr (.inr (.inl (some (t))))), some (.inl k1), some (.inl k2), some (.inl v21)]) (st' := [.inl v21]) (h' := h4) rfl ?_
        refine wq_k1 (p' := 26) (ck_54 _ _ rfl) rfl ⟨by omega, by omega⟩ (fun c24 => ?_) (fun c25 => ?_)
        · have c24 : v21 < (0) := c24
          refine av_wp_sqF ck_54 2 (pc' := 4) (lv' := [some (.inr (.inr (.inl (some (26))))), some (.inr (.inr (.inl (some (t))))), some (.inl k1), some (.inl (k2 + (1))), some (.inl v21)]) (st' := []) (h' := h4) rfl ?_
          exact I11 _ (by omega) (k1) ((k2 + (1))) (some (.inl v21)) h4 n7 rfl (g14.elim (fun z => Or.inl ⟨z.1, fun k hk => if c : k = Int.toNat k2 then (by subst c; rw [e22]; omega) else z.2 k (by omega)⟩) Or.inr) (by omega) (by omega) (by omega) C5 F6 (by rw [show Int.toNat (k2 + (1)) = Int.toNat k2 + 1 by omega]; exact MGI_n X8 e22 (by omega)) rfl
        · have c25 : (0) ≤ v21 := c25
          refine av_wp_sqF ck_54 2 (pc' := 30) (lv' := [some (.inr (.inr (.inl (some (26))))), some (.inr (.inr (.inl (some (t))))), some (.inl k1), some (.inl k2), some (.inl v21)]) (st' := [.inl (16), .inl v21]) (h' := h4) rfl ?_
          refine wq_k2 (p' := 33) (ck_54 _ _ rfl) rfl ⟨by omega, by omega⟩ ⟨by omega, by omega⟩ (fun c26 => ?_) (fun c27 => ?_)
          · have c26 : (16) ≤ v21 := c26
            refine av_wp_sqF ck_54 2 (pc' := 4) (lv' := [some (.inr (.inr (.inl (some (26))))), some (.inr (.inr (.inl (some (t))))), some (.inl k1), some (.inl (k2 + (1))), some (.inl v21)]) (st' := []) (h' := h4) rfl ?_
            exact I11 _ (by omega) (k1) ((k2 + (1))) (some (.inl v21)) h4 n7 rfl (g14.elim (fun z => Or.inl ⟨z.1, fun k hk => if c : k = Int.toNat k2 then (by subst c; rw [e22]; omega) else z.2 k (by omega)⟩) Or.inr) (by omega) (by omega) (by omega) C5 F6 (by rw [show Int.toNat (k2 + (1)) = Int.toNat k2 + 1 by omega]; exact MGI_n X8 e22 (by omega)) rfl
          · have c27 : v21 < (16) := c27
            refine av_wp_sqF ck_54 1 (pc' := 34) (lv' := [some (.inr (.inr (.inl (some (26))))), some (.inr (.inr (.inl (some (t))))), some (.inl k1), some (.inl k2), some (.inl v21)]) (st' := [.inr (.inr (.inl (some (26))))]) (h' := h4) rfl ?_
            refine wq_gr (p' := 37) (ck_54 _ _ rfl) rfl (congrArg Prod.fst (ly_k C5.1.1 26 rfl)) rfl (ly_g C5.1.1 26 5 28 rfl) ?_
            refine av_wp_sqF ck_54 2 (pc' := 40) (lv' := [some (.inr (.inr (.inl (some (26))))), some (.inr (.inr (.inl (some (t))))), some (.inl k1), some (.inl k2), some (.inl v21)]) (st' := [.inl (1), .inl v21, .inr (.inr (.inl (some (28))))]) (h' := h4) rfl ?_
            refine xj_28 (p' := 41) rfl rfl C5 F6 (by omega) (by omega) (fun h28 C29 F30 => ?_)
            refine av_wp_sqF ck_54 4 (pc' := 4) (lv' := [some (.inr (.inr (.inl (some (26))))), some (.inr (.inr (.inl (some (t))))), some (.inl (1)), some (.inl (k2 + (1))), some (.inl v21)]) (st' := []) (h' := h28) rfl ?_
            exact I11 _ (by omega) ((1)) ((k2 + (1))) (some (.inl v21)) h28 (av_u1 n7 (Int.toNat (v21)) (1)) rfl (Or.inr rfl) (by omega) (by omega) (by omega) C29 F30 (by rw [show Int.toNat (k2 + (1)) = Int.toNat k2 + 1 by omega]; exact MGI_s X8 e22 (by omega)) rfl
  exact L10 _ ((0)) ((0)) (none) h nd rfl (Or.inl ⟨rfl, fun k hk => by omega⟩) (by omega) (by omega) (by omega) C F (MGI_0 nb) rfl

set_option maxRecDepth 100000 in
set_option maxHeartbeats 4000000 in
theorem cx_53 {h : av_H} {U : Nat → Nat → Int} {S : Nat → Nat} {n : Int} {sr nd : Nat → Int} (C : CJ U S n sr nd h) {t c s : Nat} {cb : Int} (o : CO h t c s cb) {u : Nat → Int} (hu : hA h c = u) (m : Int) (qm : 0 ≤ m ∧ m ≤ 15) (mn : m ≤ n) (WF : ∀ i : Nat, (i : Int) < n → CWF (U i) (S i) i) {Q : Option av_V → av_H → Prop} (hq : ∀ (v : Int) h' nd', CJ U S n sr nd' h' → FJ h h' → ((v = 0 ∧ (∀ k : Nat, k < s → u (21 * k + 6) < 0 ∨ 16 ≤ u (21 * k + 6))) ∨ (v = 1 ∧ NDI U S u s (Int.toNat m) (-1) nd')) → Q (some (.inl v)) h') : av_wp none cd_53 0 [some (.inr (.inr (.inl (some (26))))), some (.inr (.inr (.inl (some (t))))), some (.inl m), none, none, none] [] h Q := by
  have F := FJ_rf h
  have nr := C.2.1.2.1
  have s12 := co_s12 o
  refine av_wp_sqF ck_53 2 (pc' := 2) (lv' := [some (.inr (.inr (.inl (some (26))))), some (.inr (.inr (.inl (some (t))))), some (.inl m), some (.inl (0)), none, none]) (st' := []) (h' := h) rfl ?_
  have L8 : ∀ (m7 : Nat) (k1 : Int) (h2 : av_H) (n5 : Nat → Int), (0 ≤ k1 ∧ k1 ≤ 16) → CJ U S n sr n5 h2 → FJ h h2 → FI 16 (fun _ => 0) nd k1 n5 → (16 - k1).toNat = m7 → av_wp none cd_53 2 [some (.inr (.inr (.inl (some (26))))), some (.inr (.inr (.inl (some (t))))), some (.inl m), some (.inl k1), none, none] [] h2 Q := by
    intro m7
    induction m7 using Nat.strongRecOn with
    | _ m7 I9 =>
      intro k1 h2 n5 g11 C3 F4 X6 e10
      refine av_wp_sqF ck_53 2 (pc' := 5) (lv' := [some (.inr (.inr (.inl (some (26))))), some (.inr (.inr (.inl (some (t))))), some (.inl m), some (.inl k1), none, none]) (st' := [.inl (16), .inl k1]) (h' := h2) rfl ?_
      refine wq_k2 (p' := 8) (ck_53 _ _ rfl) rfl ⟨by omega, by omega⟩ ⟨by omega, by omega⟩ (fun c12 => ?_) (fun c13 => ?_)
      · have c12 : (16) ≤ k1 := c12
        have Y14 := FI_e X6 (by omega)
        refine av_wp_sqF ck_53 2 (pc' := 23) (lv' := [some (.inr (.inr (.inl (some (26))))), some (.inr (.inr (.inl (some (t))))), some (.inl m), some (.inl k1), none, none]) (st' := [.inr (.inr (.inl (some (t)))), .inr (.inr (.inl (some (26))))]) (h' := h2) rfl ?_
        refine wq_cv (p' := 26) (av_qc (.invokevirtual 112) 54 1 0 3) 5 cd_54 [.inr (.inr (.inl (some (t))))] (26) 3 [some (.inr (.inr (.inl (some (26))))), some (.inr (.inr (.inl (some (t))))), none, none, none] (ck_53 _ _ rfl) rfl rfl pp_54 rfl rfl rfl (congrArg Prod.fst (ly_k C3.1.1 26 rfl)) rfl rfl rfl rfl ?_
        refine cx_54 C3 (CO_fr C.1.1 o F4.1) ((F4.1.2.2.2.2.2.2 c (sA_cells o.2.2.2.2.2.2.2.1)).trans hu) (fun j hj => by rw [Y14 j hj]; decide) (fun v15 h16 n17 C18 F19 M20 p21 => ?_)
        have F22 := FJ_tr F4 F19
        show av_wp _ cd_53 26 [some (.inr (.inr (.inl (some (26))))), some (.inr (.inr (.inl (some (t))))), some (.inl m), some (.inl k1), none, none] [.inl v15] h16 _
        refine av_wp_sqF ck_53 5 (pc' := 32) (lv' := [some (.inr (.inr (.inl (some (26))))), some (.inr (.inr (.inl (some (t))))), some (.inl m), some (.inl v15), some (.inl (m - (1))), none]) (st' := []) (h' := h16) rfl ?_
        have L31 : ∀ (m30 : Nat) (k23 : Int) (a24 : Option av_V) (h25 : av_H) (n28 : Nat → Int), av_lg a24 = false → k23 < m → (-1 ≤ k23 ∧ k23 ≤ 15) → CJ U S n sr n28 h25 → FJ h h25 → ((v15 = 0 ∧ (∀ k : Nat, k < s → u (21 * k + 6) < 0 ∨ 16 ≤ u (21 * k + 6))) ∨ (v15 = 1 ∧ NDI U S u s (Int.toNat m) k23 n28)) → (k23 + 1).toNat = m30 → av_wp none cd_53 32 [some (.inr (.inr (.inl (some (26))))), some (.inr (.inr (.inl (some (t))))), some (.inl m), some (.inl v15), some (.inl k23), a24] [] h25 Q := by
          intro m30
          induction m30 using Nat.strongRecOn with
          | _ m30 I32 =>
            intro k23 a24 h25 n28 g34 g35 g36 C26 F27 X29 e33
            have la24 := g34
            refine av_wp_sqF ck_53 1 (pc' := 33) (lv' := [some (.inr (.inr (.inl (some (26))))), some (.inr (.inr (.inl (some (t))))), some (.inl m), some (.inl v15), some (.inl k23), a24]) (st' := [.inl v15]) (h' := h25) rfl ?_
            refine wq_k1 (p' := 36) (ck_53 _ _ rfl) rfl ⟨by omega, by omega⟩ (fun c37 => ?_) (fun c38 => ?_)
            · have c37 : v15 = (0) := c37
              refine av_wp_sqF ck_53 1 (pc' := 81) (lv' := [some (.inr (.inr (.inl (some (26))))), some (.inr (.inr (.inl (some (t))))), some (.inl m), some (.inl v15), some (.inl k23), a24]) (st' := [.inl v15]) (h' := h25) rfl ?_
              refine wq_rb rfl (by omega) ?_
              exact hq _ h25 _ C26 F27 (X29.elim Or.inl (fun z => Or.inr ⟨z.1, NDI_m z.2 (by omega)⟩))
            · have c38 : v15 ≠ (0) := c38
              refine av_wp_sqF ck_53 1 (pc' := 38) (lv' := [some (.inr (.inr (.inl (some (26))))), some (.inr (.inr (.inl (some (t))))), some (.inl m), some (.inl v15), some (.inl k23), a24]) (st' := [.inl k23]) (h' := h25) rfl ?_
              refine wq_k1 (p' := 41) (ck_53 _ _ rfl) rfl ⟨by omega, by omega⟩ (fun c39 => ?_) (fun c40 => ?_)
              · have c39 : k23 < (0) := c39
                refine av_wp_sqF ck_53 1 (pc' := 81) (lv' := [some (.inr (.inr (.inl (some (26))))), some (.inr (.inr (.inl (some (t))))), some (.inl m), some (.inl v15), some (.inl k23), a24]) (st' := [.inl v15]) (h' := h25) rfl ?_
                refine wq_rb rfl (by omega) ?_
                exact hq _ h25 _ C26 F27 (X29.elim Or.inl (fun z => Or.inr ⟨z.1, NDI_m z.2 (by omega)⟩))
              · have c40 : (0) ≤ k23 := c40
                have N41 : ∀ j, j < 16 → 0 ≤ n28 j ∧ n28 j ≤ 1 := X29.elim (fun z => by omega) (fun z => z.2.1)
                refine av_wp_sqF ck_53 1 (pc' := 42) (lv' := [some (.inr (.inr (.inl (some (26))))), some (.inr (.inr (.inl (some (t))))), some (.inl m), some (.inl v15), some (.inl k23), a24]) (st' := [.inr (.inr (.inl (some (26))))]) (h' := h25) rfl ?_
                refine wq_gr (p' := 45) (ck_53 _ _ rfl) rfl (congrArg Prod.fst (ly_k C26.1.1 26 rfl)) rfl (ly_g C26.1.1 26 0 3 rfl) ?_
                refine av_wp_sqF ck_53 1 (pc' := 47) (lv' := [some (.inr (.inr (.inl (some (26))))), some (.inr (.inr (.inl (some (t))))), some (.inl m), some (.inl v15), some (.inl k23), a24]) (st' := [.inl k23, .inr (.inr (.inl (some (3))))]) (h' := h25) rfl ?_
                refine wq_cv (p' := 50) (av_qc (.invokevirtual 76) 69 1 0 5) 2 cd_69 [.inl k23] (3) 5 [some (.inr (.inr (.inl (some (3))))), some (.inl k23)] (ck_53 _ _ rfl) rfl rfl pp_69 rfl rfl rfl (congrArg Prod.fst (ly_k C26.1.1 3 rfl)) rfl rfl rfl rfl ?_
                refine cz_69 C26 (k23) (by omega) (fun z42 => ?_) (fun z42 z43 t44 c45 y46 y47 => ?_)
                · show av_wp _ cd_53 50 [some (.inr (.inr (.inl (some (26))))), some (.inr (.inr (.inl (some (t))))), some (.inl m), some (.inl v15), some (.inl k23), a24] [.inr (.inr (.inl none))] h25 _
                  refine av_wp_sqF ck_53 5 (pc' := 32) (lv' := [some (.inr (.inr (.inl (some (26))))), some (.inr (.inr (.inl (some (t))))), some (.inl m), some (.inl v15), some (.inl (k23 + (-1))), some (.inr (.inr (.inl none)))]) (st' := []) (h' := h25) rfl ?_
                  exact I32 _ (by omega) ((k23 + (-1))) (some (.inr (.inr (.inl none)))) h25 n28 rfl (by omega) (by omega) C26 F27 (by omega) rfl
                · have g48 := co_s12 y46
                  have g49 := co_cbr y46
                  show av_wp _ cd_53 50 [some (.inr (.inr (.inl (some (26))))), some (.inr (.inr (.inl (some (t))))), some (.inl m), some (.inl v15), some (.inl k23), a24] [.inr (.inr (.inl (some (t44))))] h25 _
                  refine av_wp_sqF ck_53 4 (pc' := 58) (lv' := [some (.inr (.inr (.inl (some (26))))), some (.inr (.inr (.inl (some (t))))), some (.inl m), some (.inl v15), some (.inl k23), some (.inr (.inr (.inl (some (t44)))))]) (st' := [.inr (.inr (.inl (some (26))))]) (h' := h25) rfl ?_
                  refine wq_gr (p' := 61) (ck_53 _ _ rfl) rfl (congrArg Prod.fst (ly_k C26.1.1 26 rfl)) rfl (ly_g C26.1.1 26 5 28 rfl) ?_
                  refine av_wp_sqF ck_53 1 (pc' := 63) (lv' := [some (.inr (.inr (.inl (some (26))))), some (.inr (.inr (.inl (some (t))))), some (.inl m), some (.inl v15), some (.inl k23), some (.inr (.inr (.inl (some (t44)))))]) (st' := [.inl k23, .inr (.inr (.inl (some (28))))]) (h' := h25) rfl ?_
                  obtain ⟨v50, e51⟩ : ∃ v, n28 (Int.toNat (k23)) = v := ⟨_, rfl⟩
                  have g52 := N41 (Int.toNat (k23)) (by omega)
                  rw [e51] at g52
                  refine wq_bl (p' := 64) (n := 16) (ck_53 _ _ rfl) rfl ((Or.inr (ly_k C26.1.1 28 rfl))) (by omega) ((congrFun C26.2.2.2 _).trans e51) ?_
                  refine wq_k1 (p' := 67) (ck_53 _ _ rfl) rfl ⟨by omega, by omega⟩ (fun c53 => ?_) (fun c54 => ?_)
                  · have c53 : v50 = (0) := c53
                    refine av_wp_sqF ck_53 2 (pc' := 32) (lv' := [some (.inr (.inr (.inl (some (26))))), some (.inr (.inr (.inl (some (t))))), some (.inl m), some (.inl v15), some (.inl (k23 + (-1))), some (.inr (.inr (.inl (some (t44)))))]) (st' := []) (h' := h25) rfl ?_
                    exact I32 _ (by omega) ((k23 + (-1))) (some (.inr (.inr (.inl (some (t44)))))) h25 n28 rfl (by omega) (by omega) C26 F27 (X29.elim Or.inl (fun z => Or.inr ⟨z.1, NDI_n z.2 (by omega) (by rw [e51]; omega)⟩)) rfl
                  · have c54 : v50 ≠ (0) := c54
                    refine av_wp_sqF ck_53 2 (pc' := 70) (lv' := [some (.inr (.inr (.inl (some (26))))), some (.inr (.inr (.inl (some (t))))), some (.inl m), some (.inl v15), some (.inl k23), some (.inr (.inr (.inl (some (t44)))))]) (st' := [.inr (.inr (.inl (some (t44)))), .inr (.inr (.inl (some (26))))]) (h' := h25) rfl ?_
                    refine wq_cv (p' := 73) (av_qc (.invokevirtual 112) 54 1 0 3) 5 cd_54 [.inr (.inr (.inl (some (t44))))] (26) 3 [some (.inr (.inr (.inl (some (26))))), some (.inr (.inr (.inl (some (t44))))), none, none, none] (ck_53 _ _ rfl) rfl rfl pp_54 rfl rfl rfl (congrArg Prod.fst (ly_k C26.1.1 26 rfl)) rfl rfl rfl rfl ?_
                    refine cx_54 C26 y46 y47 N41 (fun v55 h56 n57 C58 F59 M60 p61 => ?_)
                    have F62 := FJ_tr F27 F59
                    show av_wp _ cd_53 73 [some (.inr (.inr (.inl (some (26))))), some (.inr (.inr (.inl (some (t))))), some (.inl m), some (.inl v15), some (.inl k23), some (.inr (.inr (.inl (some (t44)))))] [.inl v55] h56 _
                    refine av_wp_sqF ck_53 3 (pc' := 32) (lv' := [some (.inr (.inr (.inl (some (26))))), some (.inr (.inr (.inl (some (t))))), some (.inl m), some (.inl v15), some (.inl (k23 + (-1))), some (.inr (.inr (.inl (some (t44)))))]) (st' := []) (h' := h56) rfl ?_
                    exact I32 _ (by omega) ((k23 + (-1))) (some (.inr (.inr (.inl (some (t44)))))) h56 n57 rfl (by omega) (by omega) C58 F62 (X29.elim (fun z => by omega) (fun z => Or.inr ⟨z.1, NDI_s z.2 (by omega) (by omega) (by have w := WF (Int.toNat k23) (by omega); intro k hk; have := (w.2.2.1 k hk).2; omega) M60⟩)) rfl
        exact L31 _ ((m - (1))) (none) h16 n17 rfl (by omega) (by omega) C18 F22 (p21.elim Or.inl (fun z => Or.inr ⟨z, by have y := NDI_0 (U := U) (S := S) (m := Int.toNat m) M20; rw [show ((Int.toNat m : Nat) : Int) = m by omega] at y; exact y⟩)) rfl
      · have c13 : k1 < (16) := c13
        refine av_wp_sqF ck_53 1 (pc' := 9) (lv' := [some (.inr (.inr (.inl (some (26))))), some (.inr (.inr (.inl (some (t))))), some (.inl m), some (.inl k1), none, none]) (st' := [.inr (.inr (.inl (some (26))))]) (h' := h2) rfl ?_
        refine wq_gr (p' := 12) (ck_53 _ _ rfl) rfl (congrArg Prod.fst (ly_k C3.1.1 26 rfl)) rfl (ly_g C3.1.1 26 5 28 rfl) ?_
        refine av_wp_sqF ck_53 2 (pc' := 14) (lv' := [some (.inr (.inr (.inl (some (26))))), some (.inr (.inr (.inl (some (t))))), some (.inl m), some (.inl k1), none, none]) (st' := [.inl (0), .inl k1, .inr (.inr (.inl (some (28))))]) (h' := h2) rfl ?_
        refine xj_28 (p' := 15) rfl rfl C3 F4 (by omega) (by omega) (fun h63 C64 F65 => ?_)
        refine av_wp_sqF ck_53 2 (pc' := 2) (lv' := [some (.inr (.inr (.inl (some (26))))), some (.inr (.inr (.inl (some (t))))), some (.inl m), some (.inl (k1 + (1))), none, none]) (st' := []) (h' := h63) rfl ?_
        exact I9 _ (by omega) ((k1 + (1))) h63 (av_u1 n5 (Int.toNat (k1)) (0)) (by omega) C64 F65 (FI_s X6 (by omega) rfl) rfl
  exact L8 _ ((0)) h nd (by omega) C F (FI_0 (fun j _ => rfl)) rfl
end
section
/-! WHAT A CASE IS GIVEN IS LEARNT -/
/-- the third bench, what is sure and what is needed may change -/
def FS (g h : av_H) : Prop := Fr g h ∧ (∀ q, q ≠ 27 → q ≠ 28 → (∀ j, j < 11 → q ≠ 61 + 1 + j) → hA h q = hA g q) ∧ (∀ o f, o ≠ 61 → hF h o f = hF g o f) ∧ ∀ o f, o ≠ 61 → hG h o f = hG g o f
theorem FS_rf (h : av_H) : FS h h := ⟨Fr_rf h, fun _ _ _ _ => rfl, fun _ _ _ => rfl, fun _ _ _ => rfl⟩
theorem FS_tr {g h k : av_H} (a : FS g h) (b : FS h k) : FS g k := ⟨Fr_tr a.1 b.1, fun q e1 e2 e3 => (b.2.1 q e1 e2 e3).trans (a.2.1 q e1 e2 e3), fun o f e => (b.2.2.1 o f e).trans (a.2.2.1 o f e), fun o f e => (b.2.2.2 o f e).trans (a.2.2.2 o f e)⟩
theorem FS_j {g h : av_H} (F : FJ g h) : FS g h := ⟨F.1, fun q e1 e2 _ => F.2.2.2 q e1 e2, fun o f _ => by rw [F.2.2.1], fun o f _ => by rw [F.2.1]⟩
theorem FS_y {g h : av_H} (F : FY 61 g h) : FS g h := ⟨F.1.1, fun q _ _ e3 => F.2.1 q e3, fun o f e => F.2.2 o f e, fun o f e => F.1.2 o f e e⟩
theorem FS_n {g h : av_H} (F : FN 61 g h) : FS g h := ⟨F.1.1, fun q _ _ e3 => F.2.1 q e3, fun o f e => F.2.2 o f e, fun o f _ => by rw [F.1.2]⟩
theorem b61_27 : ∀ j, j < 11 → (27 : Nat) ≠ 61 + 1 + j := fun j hj => by omega
theorem b61_28 : ∀ j, j < 11 → (28 : Nat) ≠ 61 + 1 + j := fun j hj => by omega
theorem CJ_y {U : Nat → Nat → Int} {S : Nat → Nat} {n : Int} {sr nd : Nat → Int} {g h : av_H} (x : CJ U S n sr nd g) (F : FY 61 g h) (I : IC h) : CJ U S n sr nd h := ⟨I, CSP_fr x.1.1 x.2.1 F.1.1, (F.2.1 27 b61_27).trans x.2.2.1, (F.2.1 28 b61_28).trans x.2.2.2⟩
theorem CJ_n {U : Nat → Nat → Int} {S : Nat → Nat} {n : Int} {sr nd : Nat → Int} {g h : av_H} (x : CJ U S n sr nd g) (F : FN 61 g h) (I : IC h) : CJ U S n sr nd h := ⟨I, CSP_fr x.1.1 x.2.1 F.1.1, (F.2.1 27 b61_27).trans x.2.2.1, (F.2.1 28 b61_28).trans x.2.2.2⟩
theorem FS_row {g h : av_H} {r : Nat} (F : FS g h) (k2 : rwc r = true) : hA h r = hA g r := by
  refine F.2.1 r (fun z => ?_) (fun z => ?_) (fun j hj z => ?_)
  · rw [z] at k2; cases k2
  · rw [z] at k2; cases k2
  · have := rwc_bn (b := 61) (Or.inr (Or.inr rfl)) j (Nat.ble_eq_true_of_le hj)
    rw [← z, k2] at this
    cases this
theorem brv_b (u sr : Nat → Int) (k : Nat) : 0 ≤ brv u sr k ∧ brv u sr k ≤ 1 := by
  unfold brv
  split <;> omega
theorem CWF_sea {u ro bar : Nat → Int} {s i : Nat} (W : CWF u s i) (r8 : -1 ≤ ro 8) (hb : ∀ k, 0 ≤ bar k ∧ bar k ≤ 1) : SEA u ro bar s := ⟨W.2.2.2.1, hb, W.2.2.2.2.1, W.2.2.2.2.2, r8⟩
/-- what the class bars is what isn't sure -/
theorem ivv_b {u sr srf : Nat → Int} {y : Int} {k : Nat} (hy : 0 ≤ y) (h : 0 ≤ u (21 * k + 6) → u (21 * k + 6) < 16 → sr (y.toNat + (u (21 * k + 6)).toNat) = srf (u (21 * k + 6)).toNat ∧ (srf (u (21 * k + 6)).toNat = 1 ∨ srf (u (21 * k + 6)).toNat = 2)) : ivv u sr y k = brv u srf k := by
  unfold ivv brv
  by_cases c : 0 ≤ u (21 * k + 6) ∧ u (21 * k + 6) < 16
  · have z := h c.1 c.2
    rw [show (y + u (21 * k + 6)).toNat = y.toNat + (u (21 * k + 6)).toNat by omega, z.1]
    rcases z.2 with e | e
    · rw [e]
      rw [if_pos ⟨c.1, c.2, by decide⟩, if_pos ⟨c.1, c.2, by decide⟩]
    · rw [e]
      rw [if_neg (fun y => y.2.2 (by decide)), if_neg (fun y => y.2.2 rfl)]
  · rw [if_neg (fun z => c ⟨z.1, z.2.1⟩), if_neg (fun z => c ⟨z.1, z.2.1⟩)]
/-- a bench that has taken a case of which all givens are known -/
theorem TKR_of {u ro sr : Nat → Int} {y : Int} {s : Nat} {a : Nat → Nat → Int} {srf : Nat → Int} (T : TKI u ro sr y s a) (hy : 0 ≤ y) (h : ∀ g, gvn u s g → sr (y.toNat + g) = srf g ∧ (srf g = 1 ∨ srf g = 2)) : TKR u ro (brv u srf) s a := fun k hk => by
  have t := T.2 k hk
  refine ⟨t.1, t.2.1, t.2.2.trans (ivv_b hy (fun h1 h2 => h _ ⟨k, hk, by omega, by omega⟩))⟩
section
variable {U : Nat → Nat → Int} {S : Nat → Nat} {ro nd sr : Nat → Int} {y : Int} {m j : Nat} {v : Int}
theorem SUI_v (x : SUI U S ro y m sr) {i : Nat} (hi : i < m) : 0 ≤ sr (y.toNat + i) ∧ sr (y.toNat + i) ≤ 2 := by
  rcases x i hi with e | e
  · omega
  · rcases sre_r (U := U) (S := S) (ro := ro) (j := i) with z | z <;> omega
theorem SUJ_0 (x : SUI U S ro y m sr) : SUJ U S ro nd y m 0 sr := ⟨x, fun i hi => absurd hi (by omega)⟩
theorem SUJ_n (x : SUJ U S ro nd y m j sr) (h : nd j = 0) : SUJ U S ro nd y m (j + 1) sr := ⟨x.1, fun i h1 h2 h3 => by
  by_cases c : i = j
  · rw [c, h] at h3; omega
  · exact x.2 i (by omega) h2 h3⟩
theorem SUJ_k (x : SUJ U S ro nd y m j sr) (h : sr (y.toNat + j) ≠ 0) : SUJ U S ro nd y m (j + 1) sr := ⟨x.1, fun i h1 h2 h3 => by
  by_cases c : i = j
  · subst c
    rcases x.1 i h2 with e | e
    · exact absurd e h
    · exact e
  · exact x.2 i (by omega) h2 h3⟩
theorem SUJ_s (x : SUJ U S ro nd y m j sr) {q : Nat} (hq : q = y.toNat + j) (hv : v = sre U S ro j) : SUJ U S ro nd y m (j + 1) (av_u1 sr q v) := by
  subst hq
  refine ⟨fun i hi => ?_, fun i h1 h2 h3 => ?_⟩
  · by_cases c : i = j
    · rw [c, u1_eq]; exact Or.inr hv
    · rw [u1_ne (by omega)]; exact x.1 i hi
  · by_cases c : i = j
    · rw [c, u1_eq]; exact hv
    · rw [u1_ne (by omega)]; exact x.2 i (by omega) h2 h3
/-- all that case j is given is known -/
theorem SUJ_g {s : Nat} {u : Nat → Int} (x : SUJ U S ro nd y m j sr) (hm : m ≤ 16) (N : NDI U S u s m (-1) nd) (hj : j < m) (hn : nd j = 1) (W : ∀ k, k < S j → -1 ≤ U j (21 * k + 6) ∧ U j (21 * k + 6) < (j : Int)) : ∀ g, gvn (U j) (S j) g → sr (y.toNat + g) = srt U S ro j g ∧ (srt U S ro j g = 1 ∨ srt U S ro j g = 2) := fun g hg => by
  have n1 := N.2.2 j (by omega) hj hn g hg
  obtain ⟨k, k1, k2, k3⟩ := hg
  have w := W k k1
  rw [srt_e (show g < j by omega), x.2 g (by omega) (by omega) n1]
  exact ⟨rfl, sre_r⟩
theorem SUJ_t {s : Nat} {u : Nat → Int} (x : SUJ U S ro nd y m m sr) (N : NDI U S u s m (-1) nd) (W : ∀ k, k < s → -1 ≤ u (21 * k + 6) ∧ u (21 * k + 6) < (m : Int)) : ∀ g, gvn u s g → sr (y.toNat + g) = srt U S ro m g ∧ (srt U S ro m g = 1 ∨ srt U S ro m g = 2) := fun g hg => by
  have n1 := N.2.1 g hg
  obtain ⟨k, k1, k2, k3⟩ := hg
  have w := W k k1
  rw [srt_e (show g < m by omega), x.2 g (by omega) (by omega) n1]
  exact ⟨rfl, sre_r⟩
end
theorem cbv_c {u : Nat → Int} {s : Nat} : (cbv u s = -1 → 1024 < cbf u s ∨ cbf u s = -1) ∧ (cbv u s ≠ -1 → cbf u s ≤ 1024 ∧ cbv u s = cbf u s) := by
  unfold cbv
  split
  · next z => exact ⟨fun _ => Or.inl z, fun y => absurd rfl y⟩
  · next z => exact ⟨fun y => Or.inr y, fun _ => ⟨by omega, rfl⟩⟩
theorem sre_1 {U : Nat → Nat → Int} {S : Nat → Nat} {ro : Nat → Int} {j : Nat} (b : 1 ≤ cbf (U j) (S j)) (h : cbv (U j) (S j) = -1) : (1 : Int) = sre U S ro j := (sre_n (fun z => by
  rcases cbv_c.1 h with y | y
  · have := z.1; omega
  · omega)).symm
theorem sre_2 {U : Nat → Nat → Int} {S : Nat → Nat} {ro : Nat → Int} {j : Nat} {v : Int} (h : cbv (U j) (S j) ≠ -1) (p : (v = -1 ∧ ∀ y : Int, 0 ≤ y → y < cbv (U j) (S j) → (bgn (U j) ro (brv (U j) (srt U S ro j)) (S j) y).2.2 ≠ 9999) ∨ ((0 ≤ v ∧ v < cbv (U j) (S j)) ∧ ¬ (bgn (U j) ro (brv (U j) (srt U S ro j)) (S j) v).2.2 ≠ 9999)) : (v = -1 → (2 : Int) = sre U S ro j) ∧ (v ≠ -1 → (1 : Int) = sre U S ro j) := by
  have c := cbv_c.2 h
  rcases p with p | p
  · refine ⟨fun _ => (sre_y ⟨c.1, fun x h1 h2 => p.2 x h1 (by omega)⟩).symm, fun z => absurd p.1 z⟩
  · refine ⟨fun z => by omega, fun _ => (sre_n (fun z => p.2 (z.2 v p.1.1 (by omega)))).symm⟩
end
section
/-! WHAT A CASE IS GIVEN IS LEARNT, exactly -/
set_option maxRecDepth 100000 in
set_option maxHeartbeats 4000000 in
theorem cx_52 {h : av_H} {U : Nat → Nat → Int} {S : Nat → Nat} {n : Int} {sr nd : Nat → Int} (C : CJ U S n sr nd h) {t c s : Nat} {cb : Int} (o : CO h t c s cb) {u : Nat → Int} (hu : hA h c = u) (m : Int) (qm : 0 ≤ m ∧ m ≤ 15) (mn : m ≤ n) (WF : ∀ i : Nat, (i : Int) < n → CWF (U i) (S i) i) (GM : ∀ k, k < s → -1 ≤ u (21 * k + 6) ∧ u (21 * k + 6) < m) (CB16 : ∀ i q j : Nat, (i : Int) < n → j < 4 → U i (21 * q + 15 + j) ≤ 16) (CB1 : ∀ i : Nat, (i : Int) < n → 1 ≤ cbf (U i) (S i)) {r : Nat} (kr : hK h r = (20, 14)) (k2 : rwc r = true) {ro : Nat → Int} (hr : hA h r = ro) (r8 : -1 ≤ ro 8) (y : Int) (qy : 0 ≤ y ∧ y ≤ 128) (SU : SUI U S ro y (Int.toNat m) sr) {Q : Option av_V → av_H → Prop} (hq : ∀ h' sr' nd', CJ U S n sr' nd' h' → FS h h' → SUI U S ro y (Int.toNat m) sr' → (∀ q : Nat, ((q : Int) < y ∨ y + m ≤ (q : Int)) → sr' q = sr q) → (∀ g, gvn u s g → sr' (y.toNat + g) = srt U S ro (Int.toNat m) g ∧ (srt U S ro (Int.toNat m) g = 1 ∨ srt U S ro (Int.toNat m) g = 2)) → Q none h') : av_wp none cd_52 0 [some (.inr (.inr (.inl (some (26))))), some (.inr (.inr (.inl (some (t))))), some (.inl m), some (.inr (.inr (.inl (some (r))))), some (.inl y), none, none, none] [] h Q := by
  have F := FS_rf h
  have nr := C.2.1.2.1
  have s12 := co_s12 o
  refine av_wp_sqF ck_52 3 (pc' := 3) (lv' := [some (.inr (.inr (.inl (some (26))))), some (.inr (.inr (.inl (some (t))))), some (.inl m), some (.inr (.inr (.inl (some (r))))), some (.inl y), none, none, none]) (st' := [.inl m, .inr (.inr (.inl (some (t)))), .inr (.inr (.inl (some (26))))]) (h' := h) rfl ?_
  refine wq_cv (p' := 6) (av_qc (.invokevirtual 104) 53 2 0 3) 6 cd_53 [.inl m, .inr (.inr (.inl (some (t))))] (26) 3 [some (.inr (.inr (.inl (some (26))))), some (.inr (.inr (.inl (some (t))))), some (.inl m), none, none, none] (ck_52 _ _ rfl) rfl rfl pp_53 rfl rfl rfl (congrArg Prod.fst (ly_k C.1.1 26 rfl)) rfl rfl rfl rfl ?_
  refine cx_53 C o hu (m) (by omega) mn WF (fun v1 h2 n3 C4 F5 p6 => ?_)
  have F7 := FS_tr F (FS_j F5)
  show av_wp _ cd_52 6 [some (.inr (.inr (.inl (some (26))))), some (.inr (.inr (.inl (some (t))))), some (.inl m), some (.inr (.inr (.inl (some (r))))), some (.inl y), none, none, none] [.inl v1] h2 _
  refine wq_k1 (p' := 9) (ck_52 _ _ rfl) rfl ⟨by omega, by omega⟩ (fun c8 => ?_) (fun c9 => ?_)
  · have c8 : v1 ≠ (0) := c8
    have N10 : NDI U S u s (Int.toNat m) (-1) n3 := p6.elim (fun z => by omega) (fun z => z.2)
    refine av_wp_sqF ck_52 2 (pc' := 13) (lv' := [some (.inr (.inr (.inl (some (26))))), some (.inr (.inr (.inl (some (t))))), some (.inl m), some (.inr (.inr (.inl (some (r))))), some (.inl y), some (.inl (0)), none, none]) (st' := []) (h' := h2) rfl ?_
    have L20 : ∀ (m19 : Nat) (k11 : Int) (a12 : Option av_V) (a13 : Option av_V) (h14 : av_H) (r17 : Nat → Int), av_lg a12 = false → av_lg a13 = false → k11 ≤ m → (0 ≤ k11 ∧ k11 ≤ 15) → CJ U S n r17 n3 h14 → FS h h14 → (SUJ U S ro n3 y (Int.toNat m) (Int.toNat k11) r17 ∧ ∀ q : Nat, ((q : Int) < y ∨ y + m ≤ (q : Int)) → r17 q = sr q) → (16 - k11).toNat = m19 → av_wp none cd_52 13 [some (.inr (.inr (.inl (some (26))))), some (.inr (.inr (.inl (some (t))))), some (.inl m), some (.inr (.inr (.inl (some (r))))), some (.inl y), some (.inl k11), a12, a13] [] h14 Q := by
      intro m19
      induction m19 using Nat.strongRecOn with
      | _ m19 I21 =>
        intro k11 a12 a13 h14 r17 g23 g24 g25 g26 C15 F16 X18 e22
        have la12 := g23
        have la13 := g24
        refine av_wp_sqF ck_52 2 (pc' := 16) (lv' := [some (.inr (.inr (.inl (some (26))))), some (.inr (.inr (.inl (some (t))))), some (.inl m), some (.inr (.inr (.inl (some (r))))), some (.inl y), some (.inl k11), a12, a13]) (st' := [.inl m, .inl k11]) (h' := h14) rfl ?_
        refine wq_k2 (p' := 19) (ck_52 _ _ rfl) rfl ⟨by omega, by omega⟩ ⟨by omega, by omega⟩ (fun c27 => ?_) (fun c28 => ?_)
        · have c27 : m ≤ k11 := c27
          refine av_wp_ret (v := none) (ck_52 _ _ rfl) rfl rfl ?_
          have z29 : Int.toNat k11 = Int.toNat m := by omega
          rw [z29] at X18
          exact hq h14 _ _ C15 F16 X18.1.1 X18.2 (SUJ_t X18.1 N10 (fun k hk => by have := GM k hk; omega))
        · have c28 : k11 < m := c28
          refine av_wp_sqF ck_52 1 (pc' := 20) (lv' := [some (.inr (.inr (.inl (some (26))))), some (.inr (.inr (.inl (some (t))))), some (.inl m), some (.inr (.inr (.inl (some (r))))), some (.inl y), some (.inl k11), a12, a13]) (st' := [.inr (.inr (.inl (some (26))))]) (h' := h14) rfl ?_
          refine wq_gr (p' := 23) (ck_52 _ _ rfl) rfl (congrArg Prod.fst (ly_k C15.1.1 26 rfl)) rfl (ly_g C15.1.1 26 0 3 rfl) ?_
          refine av_wp_sqF ck_52 1 (pc' := 25) (lv' := [some (.inr (.inr (.inl (some (26))))), some (.inr (.inr (.inl (some (t))))), some (.inl m), some (.inr (.inr (.inl (some (r))))), some (.inl y), some (.inl k11), a12, a13]) (st' := [.inl k11, .inr (.inr (.inl (some (3))))]) (h' := h14) rfl ?_
          refine wq_cv (p' := 28) (av_qc (.invokevirtual 76) 69 1 0 5) 2 cd_69 [.inl k11] (3) 5 [some (.inr (.inr (.inl (some (3))))), some (.inl k11)] (ck_52 _ _ rfl) rfl rfl pp_69 rfl rfl rfl (congrArg Prod.fst (ly_k C15.1.1 3 rfl)) rfl rfl rfl rfl ?_
          refine cz_69 C15 (k11) (by omega) (fun z30 => ?_) (fun z30 z31 t32 c33 y34 y35 => ?_)
          · show av_wp _ cd_52 28 [some (.inr (.inr (.inl (some (26))))), some (.inr (.inr (.inl (some (t))))), some (.inl m), some (.inr (.inr (.inl (some (r))))), some (.inl y), some (.inl k11), a12, a13] [.inr (.inr (.inl none))] h14 _
            refine av_wp_sqF ck_52 5 (pc' := 13) (lv' := [some (.inr (.inr (.inl (some (26))))), some (.inr (.inr (.inl (some (t))))), some (.inl m), some (.inr (.inr (.inl (some (r))))), some (.inl y), some (.inl (k11 + (1))), some (.inr (.inr (.inl none))), a13]) (st' := []) (h' := h14) rfl ?_
            exact I21 _ (by omega) ((k11 + (1))) (some (.inr (.inr (.inl none)))) (a13) h14 r17 rfl la13 (by omega) (by omega) C15 F16 (by omega) rfl
          · have g36 := co_s12 y34
            have g37 := co_cbr y34
            show av_wp _ cd_52 28 [some (.inr (.inr (.inl (some (26))))), some (.inr (.inr (.inl (some (t))))), some (.inl m), some (.inr (.inr (.inl (some (r))))), some (.inl y), some (.inl k11), a12, a13] [.inr (.inr (.inl (some (t32))))] h14 _
            refine av_wp_sqF ck_52 4 (pc' := 36) (lv' := [some (.inr (.inr (.inl (some (26))))), some (.inr (.inr (.inl (some (t))))), some (.inl m), some (.inr (.inr (.inl (some (r))))), some (.inl y), some (.inl k11), some (.inr (.inr (.inl (some (t32))))), a13]) (st' := [.inr (.inr (.inl (some (26))))]) (h' := h14) rfl ?_
            refine wq_gr (p' := 39) (ck_52 _ _ rfl) rfl (congrArg Prod.fst (ly_k C15.1.1 26 rfl)) rfl (ly_g C15.1.1 26 5 28 rfl) ?_
            refine av_wp_sqF ck_52 1 (pc' := 41) (lv' := [some (.inr (.inr (.inl (some (26))))), some (.inr (.inr (.inl (some (t))))), some (.inl m), some (.inr (.inr (.inl (some (r))))), some (.inl y), some (.inl k11), some (.inr (.inr (.inl (some (t32))))), a13]) (st' := [.inl k11, .inr (.inr (.inl (some (28))))]) (h' := h14) rfl ?_
            obtain ⟨v38, e39⟩ : ∃ v, n3 (Int.toNat (k11)) = v := ⟨_, rfl⟩
            have g40 := N10.1 (Int.toNat (k11)) (by omega)
            rw [e39] at g40
            refine wq_bl (p' := 42) (n := 16) (ck_52 _ _ rfl) rfl ((Or.inr (ly_k C15.1.1 28 rfl))) (by omega) ((congrFun C15.2.2.2 _).trans e39) ?_
            refine wq_k1 (p' := 45) (ck_52 _ _ rfl) rfl ⟨by omega, by omega⟩ (fun c41 => ?_) (fun c42 => ?_)
            · have c41 : v38 = (0) := c41
              refine av_wp_sqF ck_52 2 (pc' := 13) (lv' := [some (.inr (.inr (.inl (some (26))))), some (.inr (.inr (.inl (some (t))))), some (.inl m), some (.inr (.inr (.inl (some (r))))), some (.inl y), some (.inl (k11 + (1))), some (.inr (.inr (.inl (some (t32))))), a13]) (st' := []) (h' := h14) rfl ?_
              exact I21 _ (by omega) ((k11 + (1))) (some (.inr (.inr (.inl (some (t32)))))) (a13) h14 r17 rfl la13 (by omega) (by omega) C15 F16 ⟨by rw [show Int.toNat (k11 + (1)) = Int.toNat k11 + 1 by omega]; exact SUJ_n X18.1 (by rw [e39]; omega), X18.2⟩ rfl
            · have c42 : v38 ≠ (0) := c42
              refine av_wp_sqF ck_52 1 (pc' := 46) (lv' := [some (.inr (.inr (.inl (some (26))))), some (.inr (.inr (.inl (some (t))))), some (.inl m), some (.inr (.inr (.inl (some (r))))), some (.inl y), some (.inl k11), some (.inr (.inr (.inl (some (t32))))), a13]) (st' := [.inr (.inr (.inl (some (26))))]) (h' := h14) rfl ?_
              refine wq_gr (p' := 49) (ck_52 _ _ rfl) rfl (congrArg Prod.fst (ly_k C15.1.1 26 rfl)) rfl (ly_g C15.1.1 26 4 27 rfl) ?_
              refine av_wp_sqF ck_52 3 (pc' := 54) (lv' := [some (.inr (.inr (.inl (some (26))))), some (.inr (.inr (.inl (some (t))))), some (.inl m), some (.inr (.inr (.inl (some (r))))), some (.inl y), some (.inl k11), some (.inr (.inr (.inl (some (t32))))), a13]) (st' := [.inl (y + k11), .inr (.inr (.inl (some (27))))]) (h' := h14) rfl ?_
              obtain ⟨v43, e44⟩ : ∃ v, r17 (Int.toNat ((y + k11))) = v := ⟨_, rfl⟩
              have y46 : r17 (Int.toNat y + Int.toNat k11) = v43 := (congrArg r17 (by omega)).trans e44
              have g45 := SUI_v X18.1.1 (i := Int.toNat k11) (by omega)
              rw [y46] at g45
              refine wq_al (p' := 55) (n := 144) (ck_52 _ _ rfl) rfl (ly_k C15.1.1 27 rfl) (by omega) ((congrFun C15.2.2.1 _).trans e44) ?_
              refine wq_k1 (p' := 58) (ck_52 _ _ rfl) rfl ⟨by omega, by omega⟩ (fun c47 => ?_) (fun c48 => ?_)
              · have c47 : v43 ≠ (0) := c47
                refine av_wp_sqF ck_52 2 (pc' := 13) (lv' := [some (.inr (.inr (.inl (some (26))))), some (.inr (.inr (.inl (some (t))))), some (.inl m), some (.inr (.inr (.inl (some (r))))), some (.inl y), some (.inl (k11 + (1))), some (.inr (.inr (.inl (some (t32))))), a13]) (st' := []) (h' := h14) rfl ?_
                exact I21 _ (by omega) ((k11 + (1))) (some (.inr (.inr (.inl (some (t32)))))) (a13) h14 r17 rfl la13 (by omega) (by omega) C15 F16 ⟨by rw [show Int.toNat (k11 + (1)) = Int.toNat k11 + 1 by omega]; exact SUJ_k X18.1 (by rw [y46]; omega), X18.2⟩ rfl
              · have c48 : v43 = (0) := c48
                refine av_wp_sqF ck_52 1 (pc' := 59) (lv' := [some (.inr (.inr (.inl (some (26))))), some (.inr (.inr (.inl (some (t))))), some (.inl m), some (.inr (.inr (.inl (some (r))))), some (.inl y), some (.inl k11), some (.inr (.inr (.inl (some (t32))))), a13]) (st' := [.inr (.inr (.inl (some (26))))]) (h' := h14) rfl ?_
                refine wq_gr (p' := 62) (ck_52 _ _ rfl) rfl (congrArg Prod.fst (ly_k C15.1.1 26 rfl)) rfl (ly_g C15.1.1 26 3 61 rfl) ?_
                refine av_wp_sqF ck_52 3 (pc' := 66) (lv' := [some (.inr (.inr (.inl (some (26))))), some (.inr (.inr (.inl (some (t))))), some (.inl m), some (.inr (.inr (.inl (some (r))))), some (.inl y), some (.inl k11), some (.inr (.inr (.inl (some (t32))))), a13]) (st' := [.inr (.inr (.inl (some (26)))), .inr (.inr (.inl (some (r)))), .inr (.inr (.inl (some (t32)))), .inr (.inr (.inl (some (61))))]) (h' := h14) rfl ?_
                refine wq_gr (p' := 69) (ck_52 _ _ rfl) rfl (congrArg Prod.fst (ly_k C15.1.1 26 rfl)) rfl (ly_g C15.1.1 26 4 27 rfl) ?_
                refine av_wp_sqF ck_52 1 (pc' := 71) (lv' := [some (.inr (.inr (.inl (some (26))))), some (.inr (.inr (.inl (some (t))))), some (.inl m), some (.inr (.inr (.inl (some (r))))), some (.inl y), some (.inl k11), some (.inr (.inr (.inl (some (t32))))), a13]) (st' := [.inl y, .inr (.inr (.inl (some (27)))), .inr (.inr (.inl (some (r)))), .inr (.inr (.inl (some (t32)))), .inr (.inr (.inl (some (61))))]) (h' := h14) rfl ?_
                refine wq_cv (p' := 74) (av_qc (.invokevirtual 64) 1 4 0 0) 9 cd_1 [.inl y, .inr (.inr (.inl (some (27)))), .inr (.inr (.inl (some (r)))), .inr (.inr (.inl (some (t32))))] (61) 0 [some (.inr (.inr (.inl (some (61))))), some (.inr (.inr (.inl (some (t32))))), some (.inr (.inr (.inl (some (r))))), some (.inr (.inr (.inl (some (27))))), some (.inl y), none, none, none, none] (ck_52 _ _ rfl) rfl rfl pp_1 rfl rfl rfl (congrArg Prod.fst (bn_k0 C15.1.1 (Or.inr (Or.inr rfl)))) rfl rfl rfl rfl ?_
                refine cx_1 C15.1 (Or.inr (Or.inr rfl)) y34 ((congrFun F16.1.2.2.1 r).trans kr) k2 (y) (by omega) (fun h49 a50 E51 Y52 T53 => ?_)
                have w54 : hA h14 r = ro := (FS_row F16 k2).trans hr
                rw [y35, w54] at E51
                rw [y35, w54, C15.2.2.1] at T53
                have C55 := CJ_y C15 Y52 (ib_ic E51.1)
                have F56 := FS_tr F16 (FS_y Y52)
                have T57 := TKR_of T53 (by omega) (SUJ_g X18.1 (by omega) N10 (by omega) (by rw [e39]; omega) (WF (Int.toNat k11) (by omega)).2.2.1)
                have G58 := CWF_sea (ro := ro) (WF (Int.toNat k11) (by omega)) r8 (brv_b (U (Int.toNat k11)) (srt U S ro (Int.toNat k11)))
                show av_wp _ cd_52 74 [some (.inr (.inr (.inl (some (26))))), some (.inr (.inr (.inl (some (t))))), some (.inl m), some (.inr (.inr (.inl (some (r))))), some (.inl y), some (.inl k11), some (.inr (.inr (.inl (some (t32))))), a13] [] h49 _
                refine av_wp_sqF ck_52 1 (pc' := 76) (lv' := [some (.inr (.inr (.inl (some (26))))), some (.inr (.inr (.inl (some (t))))), some (.inl m), some (.inr (.inr (.inl (some (r))))), some (.inl y), some (.inl k11), some (.inr (.inr (.inl (some (t32))))), a13]) (st' := [.inr (.inr (.inl (some (t32))))]) (h' := h49) rfl ?_
                refine wq_gi (p' := 79) (ck_52 _ _ rfl) rfl (congrArg Prod.fst (co_kt (ib_co E51.1))) rfl (co_cb (ib_co E51.1)) ?_
                refine av_wp_sqF ck_52 1 (pc' := 80) (lv' := [some (.inr (.inr (.inl (some (26))))), some (.inr (.inr (.inl (some (t))))), some (.inl m), some (.inr (.inr (.inl (some (r))))), some (.inl y), some (.inl k11), some (.inr (.inr (.inl (some (t32))))), a13]) (st' := [.inl (-1), .inl (cbv (U (Int.toNat (k11))) (S (Int.toNat (k11))))]) (h' := h49) rfl ?_
                refine wq_k2 (p' := 83) (ck_52 _ _ rfl) rfl ⟨by omega, by omega⟩ ⟨by omega, by omega⟩ (fun c59 => ?_) (fun c60 => ?_)
                · have c59 : (cbv (U (Int.toNat (k11))) (S (Int.toNat (k11)))) = (-1) := c59
                  refine av_wp_sqF ck_52 3 (pc' := 103) (lv' := [some (.inr (.inr (.inl (some (26))))), some (.inr (.inr (.inl (some (t))))), some (.inl m), some (.inr (.inr (.inl (some (r))))), some (.inl y), some (.inl k11), some (.inr (.inr (.inl (some (t32))))), some (.inl (0))]) (st' := [.inr (.inr (.inl (some (26))))]) (h' := h49) rfl ?_
                  refine wq_gr (p' := 106) (ck_52 _ _ rfl) rfl (congrArg Prod.fst (ly_k C55.1.1 26 rfl)) rfl (ly_g C55.1.1 26 4 27 rfl) ?_
                  refine av_wp_sqF ck_52 6 (pc' := 121) (lv' := [some (.inr (.inr (.inl (some (26))))), some (.inr (.inr (.inl (some (t))))), some (.inl m), some (.inr (.inr (.inl (some (r))))), some (.inl y), some (.inl k11), some (.inr (.inr (.inl (some (t32))))), some (.inl (0))]) (st' := [.inl (1), .inl (y + k11), .inr (.inr (.inl (some (27))))]) (h' := h49) rfl ?_
                  refine xj_27 (p' := 122) rfl rfl C55 (FJ_rf h49) (by omega) (fun h61 C62 F63 => ?_)
                  have F64 := FS_tr F56 (FS_j F63)
                  refine av_wp_sqF ck_52 2 (pc' := 13) (lv' := [some (.inr (.inr (.inl (some (26))))), some (.inr (.inr (.inl (some (t))))), some (.inl m), some (.inr (.inr (.inl (some (r))))), some (.inl y), some (.inl (k11 + (1))), some (.inr (.inr (.inl (some (t32))))), some (.inl (0))]) (st' := []) (h' := h61) rfl ?_
                  exact I21 _ (by omega) ((k11 + (1))) (some (.inr (.inr (.inl (some (t32)))))) (some (.inl (0))) h61 (av_u1 r17 (Int.toNat ((y + k11))) (1)) rfl rfl (by omega) (by omega) C62 F64 ⟨by rw [show Int.toNat (k11 + (1)) = Int.toNat k11 + 1 by omega]; exact SUJ_s X18.1 (by omega) (sre_1 (CB1 (Int.toNat k11) (by omega)) (by omega)), fun q hq => by rw [u1_ne (by omega)]; exact X18.2 q hq⟩ rfl
                · have c60 : (cbv (U (Int.toNat (k11))) (S (Int.toNat (k11)))) ≠ (-1) := c60
                  refine av_wp_sqF ck_52 1 (pc' := 84) (lv' := [some (.inr (.inr (.inl (some (26))))), some (.inr (.inr (.inl (some (t))))), some (.inl m), some (.inr (.inr (.inl (some (r))))), some (.inl y), some (.inl k11), some (.inr (.inr (.inl (some (t32))))), a13]) (st' := [.inr (.inr (.inl (some (26))))]) (h' := h49) rfl ?_
                  refine wq_gr (p' := 87) (ck_52 _ _ rfl) rfl (congrArg Prod.fst (ly_k C55.1.1 26 rfl)) rfl (ly_g C55.1.1 26 3 61 rfl) ?_
                  refine av_wp_sqF ck_52 1 (pc' := 88) (lv' := [some (.inr (.inr (.inl (some (26))))), some (.inr (.inr (.inl (some (t))))), some (.inl m), some (.inr (.inr (.inl (some (r))))), some (.inl y), some (.inl k11), some (.inr (.inr (.inl (some (t32))))), a13]) (st' := [.inl (0), .inr (.inr (.inl (some (61))))]) (h' := h49) rfl ?_
                  refine wq_cs (p' := 91) (av_qc (.invokestatic 108) 55 2 2 3) 4 cd_55 [.inr (.inr (.inl (some (61)))), .inl (0)] [.inl (0), .inr (.inr (.inl (some (61))))] [some (.inr (.inr (.inl (some (61))))), some (.inl (0)), none, none] (ck_52 _ _ rfl) rfl rfl pp_55 (fun _ => rfl) rfl rfl ?_
                  refine cx_55 E51 (FN_rf 61 h49) G58 T57 (fun q hq => Or.inl (T53.1 q hq)) ((0)) (by omega) (fun v65 h66 a67 m68 m69 m70 E71 F72 Z73 T74 p75 => ?_)
                  have C76 := CJ_n C55 F72 (ib_ic E71.1)
                  have F77 := FS_tr F56 (FS_n F72)
                  have g78 : -1 ≤ v65 ∧ v65 ≤ 1023 := by have zz := (cbv_b (s := S (Int.toNat k11)) (f := U (Int.toNat k11)) (fun q hq p h1 h2 => by have w := CB16 (Int.toNat k11) q (p - 15) (by omega) (by omega); rw [show 21 * q + 15 + (p - 15) = 21 * q + p by omega] at w; exact w)); rcases p75 with z | z <;> omega
                  show av_wp _ cd_52 91 [some (.inr (.inr (.inl (some (26))))), some (.inr (.inr (.inl (some (t))))), some (.inl m), some (.inr (.inr (.inl (some (r))))), some (.inl y), some (.inl k11), some (.inr (.inr (.inl (some (t32))))), a13] [.inl v65] h66 _
                  refine av_wp_sqF ck_52 1 (pc' := 92) (lv' := [some (.inr (.inr (.inl (some (26))))), some (.inr (.inr (.inl (some (t))))), some (.inl m), some (.inr (.inr (.inl (some (r))))), some (.inl y), some (.inl k11), some (.inr (.inr (.inl (some (t32))))), a13]) (st' := [.inl (-1), .inl v65]) (h' := h66) rfl ?_
                  refine wq_k2 (p' := 95) (ck_52 _ _ rfl) rfl ⟨by omega, by omega⟩ ⟨by omega, by omega⟩ (fun c79 => ?_) (fun c80 => ?_)
                  · have c79 : v65 ≠ (-1) := c79
                    refine av_wp_sqF ck_52 3 (pc' := 103) (lv' := [some (.inr (.inr (.inl (some (26))))), some (.inr (.inr (.inl (some (t))))), some (.inl m), some (.inr (.inr (.inl (some (r))))), some (.inl y), some (.inl k11), some (.inr (.inr (.inl (some (t32))))), some (.inl (0))]) (st' := [.inr (.inr (.inl (some (26))))]) (h' := h66) rfl ?_
                    refine wq_gr (p' := 106) (ck_52 _ _ rfl) rfl (congrArg Prod.fst (ly_k C76.1.1 26 rfl)) rfl (ly_g C76.1.1 26 4 27 rfl) ?_
                    refine av_wp_sqF ck_52 6 (pc' := 121) (lv' := [some (.inr (.inr (.inl (some (26))))), some (.inr (.inr (.inl (some (t))))), some (.inl m), some (.inr (.inr (.inl (some (r))))), some (.inl y), some (.inl k11), some (.inr (.inr (.inl (some (t32))))), some (.inl (0))]) (st' := [.inl (1), .inl (y + k11), .inr (.inr (.inl (some (27))))]) (h' := h66) rfl ?_
                    refine xj_27 (p' := 122) rfl rfl C76 (FJ_rf h66) (by omega) (fun h81 C82 F83 => ?_)
                    have F84 := FS_tr F77 (FS_j F83)
                    refine av_wp_sqF ck_52 2 (pc' := 13) (lv' := [some (.inr (.inr (.inl (some (26))))), some (.inr (.inr (.inl (some (t))))), some (.inl m), some (.inr (.inr (.inl (some (r))))), some (.inl y), some (.inl (k11 + (1))), some (.inr (.inr (.inl (some (t32))))), some (.inl (0))]) (st' := []) (h' := h81) rfl ?_
                    exact I21 _ (by omega) ((k11 + (1))) (some (.inr (.inr (.inl (some (t32)))))) (some (.inl (0))) h81 (av_u1 r17 (Int.toNat ((y + k11))) (1)) rfl rfl (by omega) (by omega) C82 F84 ⟨by rw [show Int.toNat (k11 + (1)) = Int.toNat k11 + 1 by omega]; exact SUJ_s X18.1 (by omega) (by have zz := sre_2 (by omega) p75; exact zz.2 (by omega)), fun q hq => by rw [u1_ne (by omega)]; exact X18.2 q hq⟩ rfl
                  · have c80 : v65 = (-1) := c80
                    refine av_wp_sqF ck_52 4 (pc' := 103) (lv' := [some (.inr (.inr (.inl (some (26))))), some (.inr (.inr (.inl (some (t))))), some (.inl m), some (.inr (.inr (.inl (some (r))))), some (.inl y), some (.inl k11), some (.inr (.inr (.inl (some (t32))))), some (.inl (1))]) (st' := [.inr (.inr (.inl (some (26))))]) (h' := h66) rfl ?_
                    refine wq_gr (p' := 106) (ck_52 _ _ rfl) rfl (congrArg Prod.fst (ly_k C76.1.1 26 rfl)) rfl (ly_g C76.1.1 26 4 27 rfl) ?_
                    refine av_wp_sqF ck_52 7 (pc' := 121) (lv' := [some (.inr (.inr (.inl (some (26))))), some (.inr (.inr (.inl (some (t))))), some (.inl m), some (.inr (.inr (.inl (some (r))))), some (.inl y), some (.inl k11), some (.inr (.inr (.inl (some (t32))))), some (.inl (1))]) (st' := [.inl (2), .inl (y + k11), .inr (.inr (.inl (some (27))))]) (h' := h66) rfl ?_
                    refine xj_27 (p' := 122) rfl rfl C76 (FJ_rf h66) (by omega) (fun h85 C86 F87 => ?_)
                    have F88 := FS_tr F77 (FS_j F87)
                    refine av_wp_sqF ck_52 2 (pc' := 13) (lv' := [some (.inr (.inr (.inl (some (26))))), some (.inr (.inr (.inl (some (t))))), some (.inl m), some (.inr (.inr (.inl (some (r))))), some (.inl y), some (.inl (k11 + (1))), some (.inr (.inr (.inl (some (t32))))), some (.inl (1))]) (st' := []) (h' := h85) rfl ?_
                    exact I21 _ (by omega) ((k11 + (1))) (some (.inr (.inr (.inl (some (t32)))))) (some (.inl (1))) h85 (av_u1 r17 (Int.toNat ((y + k11))) (2)) rfl rfl (by omega) (by omega) C86 F88 ⟨by rw [show Int.toNat (k11 + (1)) = Int.toNat k11 + 1 by omega]; exact SUJ_s X18.1 (by omega) (by have zz := sre_2 (by omega) p75; exact zz.1 (by omega)), fun q hq => by rw [u1_ne (by omega)]; exact X18.2 q hq⟩ rfl
    exact L20 _ ((0)) (none) (none) h2 sr rfl rfl (by omega) (by omega) C4 F7 ⟨SUJ_0 SU, fun q _ => rfl⟩ rfl
  · have c9 : v1 = (0) := c9
    refine av_wp_ret (v := none) (ck_52 _ _ rfl) rfl rfl ?_
    exact hq h2 _ _ C4 F7 SU (fun q _ => rfl) (fun g ⟨k, k1, k2, k3⟩ => p6.elim (fun z => by exfalso; have := z.2 k k1; omega) (fun z => by exfalso; omega))
end
section
/-! A CASE IS SEATED -/
/-- benches 61 and b, what is sure and what is needed may change -/
def FP (b : Nat) (g h : av_H) : Prop := Fr g h ∧ (∀ q, q ≠ 27 → q ≠ 28 → (∀ j, j < 11 → q ≠ 61 + 1 + j) → (∀ j, j < 11 → q ≠ b + 1 + j) → hA h q = hA g q) ∧ (∀ o f, o ≠ 61 → o ≠ b → hF h o f = hF g o f) ∧ ∀ o f, o ≠ 61 → o ≠ b → hG h o f = hG g o f
theorem FP_rf (b : Nat) (h : av_H) : FP b h h := ⟨Fr_rf h, fun _ _ _ _ _ => rfl, fun _ _ _ _ => rfl, fun _ _ _ _ => rfl⟩
theorem FP_tr {b : Nat} {g h k : av_H} (a : FP b g h) (c : FP b h k) : FP b g k := ⟨Fr_tr a.1 c.1, fun q e1 e2 e3 e4 => (c.2.1 q e1 e2 e3 e4).trans (a.2.1 q e1 e2 e3 e4), fun o f e1 e2 => (c.2.2.1 o f e1 e2).trans (a.2.2.1 o f e1 e2), fun o f e1 e2 => (c.2.2.2 o f e1 e2).trans (a.2.2.2 o f e1 e2)⟩
theorem FP_s {b : Nat} {g h : av_H} (F : FS g h) : FP b g h := ⟨F.1, fun q e1 e2 e3 _ => F.2.1 q e1 e2 e3, fun o f e1 _ => F.2.2.1 o f e1, fun o f e1 _ => F.2.2.2 o f e1⟩
theorem FP_y {b : Nat} {g h : av_H} (F : FY b g h) : FP b g h := ⟨F.1.1, fun q _ _ _ e4 => F.2.1 q e4, fun o f _ e2 => F.2.2 o f e2, fun o f e1 e2 => F.1.2 o f e2 e1⟩
theorem FP_n {b : Nat} {g h : av_H} (F : FN b g h) : FP b g h := ⟨F.1.1, fun q _ _ _ e4 => F.2.1 q e4, fun o f _ e2 => F.2.2 o f e2, fun o f _ _ => by rw [F.1.2]⟩
theorem bn_28 {b : Nat} (hb : bn b) (j : Nat) (hj : j < 11) : (28 : Nat) ≠ b + 1 + j := by
  rcases hb with e | e | e <;> omega
theorem CJ_by {U : Nat → Nat → Int} {S : Nat → Nat} {n : Int} {sr nd : Nat → Int} {b : Nat} {g h : av_H} (hb : bn b) (x : CJ U S n sr nd g) (F : FY b g h) (I : IC h) : CJ U S n sr nd h := ⟨I, CSP_fr x.1.1 x.2.1 F.1.1, (F.2.1 27 (bn_27 hb)).trans x.2.2.1, (F.2.1 28 (bn_28 hb)).trans x.2.2.2⟩
theorem CJ_bn {U : Nat → Nat → Int} {S : Nat → Nat} {n : Int} {sr nd : Nat → Int} {b : Nat} {g h : av_H} (hb : bn b) (x : CJ U S n sr nd g) (F : FN b g h) (I : IC h) : CJ U S n sr nd h := ⟨I, CSP_fr x.1.1 x.2.1 F.1.1, (F.2.1 27 (bn_27 hb)).trans x.2.2.1, (F.2.1 28 (bn_28 hb)).trans x.2.2.2⟩
theorem FP_row {b : Nat} (hb : bn b) {g h : av_H} {r : Nat} (F : FP b g h) (k2 : rwc r = true) : hA h r = hA g r := by
  refine F.2.1 r (fun z => ?_) (fun z => ?_) (fun j hj z => ?_) (fun j hj z => ?_)
  · rw [z] at k2; cases k2
  · rw [z] at k2; cases k2
  · have := rwc_bn (b := 61) (Or.inr (Or.inr rfl)) j (Nat.ble_eq_true_of_le hj)
    rw [← z, k2] at this
    cases this
  · have := rwc_bn hb j (Nat.ble_eq_true_of_le hj)
    rw [← z, k2] at this
    cases this
/-- what is known of the sure cases, law by law -/
def SUA (U : Nat → Nat → Int) (S : Nat → Nat) (n L : Int) (ro : Nat → Nat → Int) (sr : Nat → Int) : Prop := ∀ l : Nat, l < 8 → ((l : Int) < L → ∀ i : Nat, i < 16 → sr (16 * l + i) = 0 ∨ ((i : Int) < n ∧ sr (16 * l + i) = sre U S (ro l) i)) ∧ (L ≤ (l : Int) → ∀ i : Nat, i < 16 → sr (16 * l + i) = 0)
theorem SUA_i {U : Nat → Nat → Int} {S : Nat → Nat} {n L : Int} {ro : Nat → Nat → Int} {sr : Nat → Int} (x : SUA U S n L ro sr) {l : Int} (h0 : 0 ≤ l) (h8 : l < 8) (hl : l < L) {m : Nat} (hm : m ≤ 16) : SUI U S (ro l.toNat) (l * 16) m sr := fun i hi => by
  have := (x l.toNat (by omega)).1 (by omega) i (by omega)
  rw [show (l * 16).toNat + i = 16 * l.toNat + i by omega]
  rcases this with e | e
  · exact Or.inl e
  · exact Or.inr e.2
theorem SUA_s {U : Nat → Nat → Int} {S : Nat → Nat} {n L : Int} {ro : Nat → Nat → Int} {sr sr' : Nat → Int} (x : SUA U S n L ro sr) {l m : Int} (h0 : 0 ≤ l) (h8 : l < 8) (hl : l < L) (hm : 0 ≤ m ∧ m ≤ n ∧ m ≤ 16) (y : SUI U S (ro l.toNat) (l * 16) m.toNat sr') (z : ∀ q : Nat, ((q : Int) < l * 16 ∨ l * 16 + m ≤ (q : Int)) → sr' q = sr q) : SUA U S n L ro sr' := fun k hk => by
  by_cases c : k = l.toNat
  · subst c
    refine ⟨fun h1 i hi => ?_, fun h1 => by omega⟩
    by_cases d : i < m.toNat
    · have := y i d
      rw [show (l * 16).toNat + i = 16 * l.toNat + i by omega] at this
      rcases this with e | e
      · exact Or.inl e
      · exact Or.inr ⟨by omega, e⟩
    · rw [z (16 * l.toNat + i) (by omega)]
      exact (x l.toNat (by omega)).1 h1 i hi
  · refine ⟨fun h1 i hi => ?_, fun h1 i hi => ?_⟩
    · rw [z (16 * k + i) (by omega)]
      exact (x k hk).1 h1 i hi
    · rw [z (16 * k + i) (by omega)]
      exact (x k hk).2 h1 i hi
theorem EB_self {b t c s r : Nat} {cb : Int} {u ro : Nat → Int} {a : Nat → Nat → Int} {x y z : Int} {h : av_H} (e : EB b t c s r cb u ro a x y z h) : EB b t c s r cb u ro a (hF h b 13) (hF h b 14) (hF h b 15) h := ⟨e.1, e.2.1, e.2.2.1, e.2.2.2.1, rfl, rfl, rfl⟩
/-- what the class's looks need of cases and laws -/
def CRT (U : Nat → Nat → Int) (S : Nat → Nat) (n L : Int) (ro : Nat → Nat → Int) : Prop := (∀ i : Nat, (i : Int) < n → CWF (U i) (S i) i) ∧ (∀ i q j : Nat, (i : Int) < n → j < 4 → U i (21 * q + 15 + j) ≤ 16) ∧ (∀ i : Nat, (i : Int) < n → 1 ≤ cbf (U i) (S i)) ∧ ∀ l : Int, 0 ≤ l → l < L → RLW (ro l.toNat)
end
section
/-! A CASE IS SEATED, exactly -/
set_option maxRecDepth 100000 in
set_option maxHeartbeats 4000000 in
theorem cz_51 {h : av_H} {U : Nat → Nat → Int} {S : Nat → Nat} {n : Int} {sr nd : Nat → Int} (C : CJ U S n sr nd h) {b : Nat} (hb : bn b) {t c s : Nat} {cb : Int} (o : CO h t c s cb) {u : Nat → Int} (hu : hA h c = u) (m : Int) (qm : 0 ≤ m ∧ m ≤ 15) (mn : m ≤ n) (WF : ∀ i : Nat, (i : Int) < n → CWF (U i) (S i) i) (GM : ∀ k, k < s → -1 ≤ u (21 * k + 6) ∧ u (21 * k + 6) < m) (CB16 : ∀ i q j : Nat, (i : Int) < n → j < 4 → U i (21 * q + 15 + j) ≤ 16) (CB1 : ∀ i : Nat, (i : Int) < n → 1 ≤ cbf (U i) (S i)) (l : Int) (ql : -2147483648 ≤ l ∧ l ≤ 2147483647) (SU : SUA U S n (hF h 3 4) (fun k => hA h (6 + k)) sr) (R8 : ∀ l : Int, 0 ≤ l → l < hF h 3 4 → -1 ≤ hA h (6 + Int.toNat l) 8) {Q : Option av_V → av_H → Prop} (hq0 : (cb = -1 ∨ l < 0 ∨ hF h 3 4 ≤ l) → Q (some (.inl 0)) h) (hq1 : cb ≠ -1 → 0 ≤ l → l < hF h 3 4 → ∀ h' sr' nd' a', CJ U S n sr' nd' h' → FP b h h' → SUA U S n (hF h 3 4) (fun k => hA h (6 + k)) sr' → EB b t c s (6 + Int.toNat l) cb u (hA h (6 + Int.toNat l)) a' (hF h' b 13) (hF h' b 14) (hF h' b 15) h' → HZ u a' → TKR u (hA h (6 + Int.toNat l)) (brv u (srt U S (hA h (6 + Int.toNat l)) (Int.toNat m))) s a' → Q (some (.inl 1)) h') : av_wp none cd_51 0 [some (.inr (.inr (.inl (some (26))))), some (.inr (.inr (.inl (some (b))))), some (.inr (.inr (.inl (some (t))))), some (.inl m), some (.inl l)] [] h Q := by
  have F := FS_rf h
  have nr := C.2.1.2.1
  have s12 := co_s12 o
  have cbr := co_cbr o
  refine av_wp_sqF ck_51 3 (pc' := 5) (lv' := [some (.inr (.inr (.inl (some (26))))), some (.inr (.inr (.inl (some (b))))), some (.inr (.inr (.inl (some (t))))), some (.inl m), some (.inl l)]) (st' := [.inr (.inr (.inl (some (t))))]) (h' := h) rfl ?_
  refine wq_gi (p' := 8) (ck_51 _ _ rfl) rfl (congrArg Prod.fst (co_kt (CO_fr C.1.1 o F.1))) rfl (co_cb (CO_fr C.1.1 o F.1)) ?_
  refine av_wp_sqF ck_51 1 (pc' := 9) (lv' := [some (.inr (.inr (.inl (some (26))))), some (.inr (.inr (.inl (some (b))))), some (.inr (.inr (.inl (some (t))))), some (.inl m), some (.inl l)]) (st' := [.inl (-1), .inl cb]) (h' := h) rfl ?_
  refine wq_k2 (p' := 12) (ck_51 _ _ rfl) rfl ⟨by omega, by omega⟩ ⟨by omega, by omega⟩ (fun c1 => ?_) (fun c2 => ?_)
  · have c1 : cb = (-1) := c1
    refine av_wp_sqF ck_51 1 (pc' := 25) (lv' := [some (.inr (.inr (.inl (some (26))))), some (.inr (.inr (.inl (some (b))))), some (.inr (.inr (.inl (some (t))))), some (.inl m), some (.inl l)]) (st' := [.inl (0)]) (h' := h) rfl ?_
    refine av_wp_ret (v := some (.inl (0))) (ck_51 _ _ rfl) rfl rfl ?_
    exact hq0 (by omega)
  · have c2 : cb ≠ (-1) := c2
    refine av_wp_sqF ck_51 1 (pc' := 13) (lv' := [some (.inr (.inr (.inl (some (26))))), some (.inr (.inr (.inl (some (b))))), some (.inr (.inr (.inl (some (t))))), some (.inl m), some (.inl l)]) (st' := [.inr (.inr (.inl (some (26))))]) (h' := h) rfl ?_
    refine wq_gr (p' := 16) (ck_51 _ _ rfl) rfl (congrArg Prod.fst (ly_k C.1.1 26 rfl)) rfl (ly_g C.1.1 26 0 3 rfl) ?_
    refine av_wp_sqF ck_51 1 (pc' := 18) (lv' := [some (.inr (.inr (.inl (some (26))))), some (.inr (.inr (.inl (some (b))))), some (.inr (.inr (.inl (some (t))))), some (.inl m), some (.inl l)]) (st' := [.inl l, .inr (.inr (.inl (some (3))))]) (h' := h) rfl ?_
    refine wq_cv (p' := 21) (av_qc (.invokevirtual 93) 70 1 0 5) 2 cd_70 [.inl l] (3) 5 [some (.inr (.inr (.inl (some (3))))), some (.inl l)] (ck_51 _ _ rfl) rfl rfl pp_70 rfl rfl rfl (congrArg Prod.fst (ly_k C.1.1 3 rfl)) rfl rfl rfl rfl ?_
    refine cx_70 C.1 (l) (by omega) (fun v3 p4 => ?_)
    have g5 := ic_lc C.1
    show av_wp _ cd_51 21 [some (.inr (.inr (.inl (some (26))))), some (.inr (.inr (.inl (some (b))))), some (.inr (.inr (.inl (some (t))))), some (.inl m), some (.inl l)] [.inl v3] h _
    refine wq_k1 (p' := 24) (ck_51 _ _ rfl) rfl ⟨by omega, by omega⟩ (fun c6 => ?_) (fun c7 => ?_)
    · have c6 : v3 ≠ (0) := c6
      refine av_wp_sqF ck_51 4 (pc' := 30) (lv' := [some (.inr (.inr (.inl (some (26))))), some (.inr (.inr (.inl (some (b))))), some (.inr (.inr (.inl (some (t))))), some (.inl m), some (.inl l)]) (st' := [.inr (.inr (.inl (some (26)))), .inl m, .inr (.inr (.inl (some (t)))), .inr (.inr (.inl (some (26))))]) (h' := h) rfl ?_
      refine wq_gr (p' := 33) (ck_51 _ _ rfl) rfl (congrArg Prod.fst (ly_k C.1.1 26 rfl)) rfl (ly_g C.1.1 26 0 3 rfl) ?_
      refine wq_gr (p' := 36) (ck_51 _ _ rfl) rfl (congrArg Prod.fst (ly_k C.1.1 3 rfl)) rfl (ly_g C.1.1 3 1 5 rfl) ?_
      refine av_wp_sqF ck_51 1 (pc' := 38) (lv' := [some (.inr (.inr (.inl (some (26))))), some (.inr (.inr (.inl (some (b))))), some (.inr (.inr (.inl (some (t))))), some (.inl m), some (.inl l)]) (st' := [.inl l, .inr (.inr (.inl (some (5)))), .inl m, .inr (.inr (.inl (some (t)))), .inr (.inr (.inl (some (26))))]) (h' := h) rfl ?_
      have u8 : (Int.toNat (l)) < 8 := by omega
      refine wq_ar (p' := 39) (n := 8) (k := 32) (ck_51 _ _ rfl) rfl (ly_k C.1.1 5 rfl) (by omega) (by omega) (C.1.1.2.2.1 _ u8) ?_
      refine av_wp_sqF ck_51 3 (pc' := 44) (lv' := [some (.inr (.inr (.inl (some (26))))), some (.inr (.inr (.inl (some (b))))), some (.inr (.inr (.inl (some (t))))), some (.inl m), some (.inl l)]) (st' := [.inl (l * (16)), .inr (.inr (.inl (some (6 + (Int.toNat (l)))))), .inl m, .inr (.inr (.inl (some (t)))), .inr (.inr (.inl (some (26))))]) (h' := h) rfl ?_
      refine wq_cv (p' := 47) (av_qc (.invokevirtual 100) 52 4 0 3) 8 cd_52 [.inl (l * (16)), .inr (.inr (.inl (some (6 + (Int.toNat (l)))))), .inl m, .inr (.inr (.inl (some (t))))] (26) 3 [some (.inr (.inr (.inl (some (26))))), some (.inr (.inr (.inl (some (t))))), some (.inl m), some (.inr (.inr (.inl (some (6 + (Int.toNat (l))))))), some (.inl (l * (16))), none, none, none] (ck_51 _ _ rfl) rfl rfl pp_52 rfl rfl rfl (congrArg Prod.fst (ly_k C.1.1 26 rfl)) rfl rfl rfl rfl ?_
      have su0 := SUA_i (l := l) SU (by omega) (by omega) (by omega) (m := Int.toNat m) (by omega)
      refine cx_52 C o hu m qm mn WF GM CB16 CB1 (r := 6 + (Int.toNat (l))) (ly_l C.1.1 u8) (rwc_l u8) rfl (R8 l (by omega) (by omega)) ((l * (16))) (by omega) su0 (fun h9 r10 n11 C12 F13 U14 O15 K16 => ?_)
      have su1 := SUA_s SU (by omega) (by omega) (by omega) (by omega) U14 O15
      show av_wp _ cd_51 47 [some (.inr (.inr (.inl (some (26))))), some (.inr (.inr (.inl (some (b))))), some (.inr (.inr (.inl (some (t))))), some (.inl m), some (.inl l)] [] h9 _
      refine av_wp_sqF ck_51 3 (pc' := 50) (lv' := [some (.inr (.inr (.inl (some (26))))), some (.inr (.inr (.inl (some (b))))), some (.inr (.inr (.inl (some (t))))), some (.inl m), some (.inl l)]) (st' := [.inr (.inr (.inl (some (26)))), .inr (.inr (.inl (some (t)))), .inr (.inr (.inl (some (b))))]) (h' := h9) rfl ?_
      refine wq_gr (p' := 53) (ck_51 _ _ rfl) rfl (congrArg Prod.fst (ly_k C12.1.1 26 rfl)) rfl (ly_g C12.1.1 26 0 3 rfl) ?_
      refine wq_gr (p' := 56) (ck_51 _ _ rfl) rfl (congrArg Prod.fst (ly_k C12.1.1 3 rfl)) rfl (ly_g C12.1.1 3 1 5 rfl) ?_
      refine av_wp_sqF ck_51 1 (pc' := 58) (lv' := [some (.inr (.inr (.inl (some (26))))), some (.inr (.inr (.inl (some (b))))), some (.inr (.inr (.inl (some (t))))), some (.inl m), some (.inl l)]) (st' := [.inl l, .inr (.inr (.inl (some (5)))), .inr (.inr (.inl (some (t)))), .inr (.inr (.inl (some (b))))]) (h' := h9) rfl ?_
      have u17 : (Int.toNat (l)) < 8 := by omega
      refine wq_ar (p' := 59) (n := 8) (k := 32) (ck_51 _ _ rfl) rfl (ly_k C12.1.1 5 rfl) (by omega) (by omega) (C12.1.1.2.2.1 _ u17) ?_
      refine av_wp_sqF ck_51 1 (pc' := 60) (lv' := [some (.inr (.inr (.inl (some (26))))), some (.inr (.inr (.inl (some (b))))), some (.inr (.inr (.inl (some (t))))), some (.inl m), some (.inl l)]) (st' := [.inr (.inr (.inl (some (26)))), .inr (.inr (.inl (some (6 + (Int.toNat (l)))))), .inr (.inr (.inl (some (t)))), .inr (.inr (.inl (some (b))))]) (h' := h9) rfl ?_
      refine wq_gr (p' := 63) (ck_51 _ _ rfl) rfl (congrArg Prod.fst (ly_k C12.1.1 26 rfl)) rfl (ly_g C12.1.1 26 4 27 rfl) ?_
      refine av_wp_sqF ck_51 3 (pc' := 68) (lv' := [some (.inr (.inr (.inl (some (26))))), some (.inr (.inr (.inl (some (b))))), some (.inr (.inr (.inl (some (t))))), some (.inl m), some (.inl l)]) (st' := [.inl (l * (16)), .inr (.inr (.inl (some (27)))), .inr (.inr (.inl (some (6 + (Int.toNat (l)))))), .inr (.inr (.inl (some (t)))), .inr (.inr (.inl (some (b))))]) (h' := h9) rfl ?_
      refine wq_cv (p' := 71) (av_qc (.invokevirtual 64) 1 4 0 0) 9 cd_1 [.inl (l * (16)), .inr (.inr (.inl (some (27)))), .inr (.inr (.inl (some (6 + (Int.toNat (l)))))), .inr (.inr (.inl (some (t))))] (b) 0 [some (.inr (.inr (.inl (some (b))))), some (.inr (.inr (.inl (some (t))))), some (.inr (.inr (.inl (some (6 + (Int.toNat (l))))))), some (.inr (.inr (.inl (some (27))))), some (.inl (l * (16))), none, none, none, none] (ck_51 _ _ rfl) rfl rfl pp_1 rfl rfl rfl (congrArg Prod.fst (bn_k0 C12.1.1 hb)) rfl rfl rfl rfl ?_
      refine cx_1 C12.1 hb (CO_fr C.1.1 o F13.1) (ly_l C12.1.1 u17) (rwc_l u17) ((l * (16))) (by omega) (fun h18 a19 E20 Y21 T22 => ?_)
      have w25 : hA h9 (6 + Int.toNat l) = (hA h (6 + Int.toNat l)) := FS_row F13 (rwc_l u17)
      have w26 : hA h9 c = u := (F13.1.2.2.2.2.2.2 c (sA_cells o.2.2.2.2.2.2.2.1)).trans hu
      rw [w26, w25] at E20
      rw [w26, w25, C12.2.2.1] at T22
      have C23 := CJ_by hb C12 Y21 (ib_ic E20.1)
      have F24 := FP_tr (FP_s F13) (FP_y Y21)
      have tk := TKR_of T22 (by omega) K16
      show av_wp _ cd_51 71 [some (.inr (.inr (.inl (some (26))))), some (.inr (.inr (.inl (some (b))))), some (.inr (.inr (.inl (some (t))))), some (.inl m), some (.inl l)] [] h18 _
      refine av_wp_sqF ck_51 1 (pc' := 72) (lv' := [some (.inr (.inr (.inl (some (26))))), some (.inr (.inr (.inl (some (b))))), some (.inr (.inr (.inl (some (t))))), some (.inl m), some (.inl l)]) (st' := [.inl (1)]) (h' := h18) rfl ?_
      refine av_wp_ret (v := some (.inl (1))) (ck_51 _ _ rfl) rfl rfl ?_
      exact hq1 (by omega) (by omega) (by omega) h18 _ _ _ C23 F24 su1 (EB_self E20) (fun q hq => Or.inl (T22.1 q hq)) tk
    · have c7 : v3 = (0) := c7
      refine av_wp_sqF ck_51 1 (pc' := 25) (lv' := [some (.inr (.inr (.inl (some (26))))), some (.inr (.inr (.inl (some (b))))), some (.inr (.inr (.inl (some (t))))), some (.inl m), some (.inl l)]) (st' := [.inl (0)]) (h' := h) rfl ?_
      refine av_wp_ret (v := some (.inl (0))) (ck_51 _ _ rfl) rfl rfl ?_
      exact hq0 (by omega)

set_option maxRecDepth 100000 in
set_option maxHeartbeats 4000000 in
theorem cz_48 {h : av_H} {U : Nat → Nat → Int} {S : Nat → Nat} {n : Int} {sr nd : Nat → Int} (C : CJ U S n sr nd h) (k : Int) (qk : -2147483648 ≤ k ∧ k ≤ 2147483647) (l : Int) (ql : -2147483648 ≤ l ∧ l ≤ 2147483647) (x : Int) (qx : -2147483648 ≤ x ∧ x ≤ 2147483647) (CR : CRT U S n (hF h 3 4) (fun k => hA h (6 + k))) (SU : SUA U S n (hF h 3 4) (fun k => hA h (6 + k)) sr) {Q : Option av_V → av_H → Prop} (hq0 : (k < 0 ∨ n ≤ k ∨ x < 0 ∨ cbv (U (Int.toNat k)) (S (Int.toNat k)) ≤ x ∨ l < 0 ∨ hF h 3 4 ≤ l) → Q (some (.inl 0)) h) (hq1 : (0 ≤ k ∧ k < n) → (0 ≤ x ∧ x < cbv (U (Int.toNat k)) (S (Int.toNat k))) → (0 ≤ l ∧ l < hF h 3 4) → ∀ h' sr' nd' t c a' m1 m2 m3, CJ U S n sr' nd' h' → FP 35 h h' → SUA U S n (hF h 3 4) (fun k => hA h (6 + k)) sr' → EB 35 t c (S (Int.toNat k)) (6 + Int.toNat l) (cbv (U (Int.toNat k)) (S (Int.toNat k))) (U (Int.toNat k)) (hA h (6 + Int.toNat l)) a' m1 m2 m3 h' → HZ (U (Int.toNat k)) a' → TKR (U (Int.toNat k)) (hA h (6 + Int.toNat l)) (brv (U (Int.toNat k)) (srt U S (hA h (6 + Int.toNat l)) (Int.toNat k))) (S (Int.toNat k)) a' → DCD (U (Int.toNat k)) (hA h (6 + Int.toNat l)) (brv (U (Int.toNat k)) (srt U S (hA h (6 + Int.toNat l)) (Int.toNat k))) (S (Int.toNat k)) x a' → bgn (U (Int.toNat k)) (hA h (6 + Int.toNat l)) (brv (U (Int.toNat k)) (srt U S (hA h (6 + Int.toNat l)) (Int.toNat k))) (S (Int.toNat k)) x = (m1, m2, m3) → MBR (m1, m2, m3) → Q (some (.inl 1)) h') : av_wp none cd_48 0 [some (.inr (.inr (.inl (some (26))))), some (.inl k), some (.inl l), some (.inl x), none] [] h Q := by
  have F := FS_rf h
  have nr := C.2.1.2.1
  refine av_wp_sqF ck_48 1 (pc' := 1) (lv' := [some (.inr (.inr (.inl (some (26))))), some (.inl k), some (.inl l), some (.inl x), none]) (st' := [.inr (.inr (.inl (some (26))))]) (h' := h) rfl ?_
  refine wq_gr (p' := 4) (ck_48 _ _ rfl) rfl (congrArg Prod.fst (ly_k C.1.1 26 rfl)) rfl (ly_g C.1.1 26 0 3 rfl) ?_
  refine av_wp_sqF ck_48 1 (pc' := 5) (lv' := [some (.inr (.inr (.inl (some (26))))), some (.inl k), some (.inl l), some (.inl x), none]) (st' := [.inl k, .inr (.inr (.inl (some (3))))]) (h' := h) rfl ?_
  refine wq_cv (p' := 8) (av_qc (.invokevirtual 76) 69 1 0 5) 2 cd_69 [.inl k] (3) 5 [some (.inr (.inr (.inl (some (3))))), some (.inl k)] (ck_48 _ _ rfl) rfl rfl pp_69 rfl rfl rfl (congrArg Prod.fst (ly_k C.1.1 3 rfl)) rfl rfl rfl rfl ?_
  refine cz_69 C (k) (by omega) (fun z1 => ?_) (fun z1 z2 t3 c4 y5 y6 => ?_)
  · show av_wp _ cd_48 8 [some (.inr (.inr (.inl (some (26))))), some (.inl k), some (.inl l), some (.inl x), none] [.inr (.inr (.inl none))] h _
    refine av_wp_sqF ck_48 4 (pc' := 44) (lv' := [some (.inr (.inr (.inl (some (26))))), some (.inl k), some (.inl l), some (.inl x), some (.inr (.inr (.inl none)))]) (st' := [.inl (0)]) (h' := h) rfl ?_
    refine av_wp_ret (v := some (.inl (0))) (ck_48 _ _ rfl) rfl rfl ?_
    exact hq0 (by omega)
  · have g7 := co_s12 y5
    have g8 := co_cbr y5
    show av_wp _ cd_48 8 [some (.inr (.inr (.inl (some (26))))), some (.inl k), some (.inl l), some (.inl x), none] [.inr (.inr (.inl (some (t3))))] h _
    refine av_wp_sqF ck_48 4 (pc' := 16) (lv' := [some (.inr (.inr (.inl (some (26))))), some (.inl k), some (.inl l), some (.inl x), some (.inr (.inr (.inl (some (t3)))))]) (st' := [.inl x]) (h' := h) rfl ?_
    refine wq_k1 (p' := 19) (ck_48 _ _ rfl) rfl ⟨by omega, by omega⟩ (fun c9 => ?_) (fun c10 => ?_)
    · have c9 : x < (0) := c9
      refine av_wp_sqF ck_48 1 (pc' := 44) (lv' := [some (.inr (.inr (.inl (some (26))))), some (.inl k), some (.inl l), some (.inl x), some (.inr (.inr (.inl (some (t3)))))]) (st' := [.inl (0)]) (h' := h) rfl ?_
      refine av_wp_ret (v := some (.inl (0))) (ck_48 _ _ rfl) rfl rfl ?_
      exact hq0 (by omega)
    · have c10 : (0) ≤ x := c10
      refine av_wp_sqF ck_48 2 (pc' := 22) (lv' := [some (.inr (.inr (.inl (some (26))))), some (.inl k), some (.inl l), some (.inl x), some (.inr (.inr (.inl (some (t3)))))]) (st' := [.inr (.inr (.inl (some (t3)))), .inl x]) (h' := h) rfl ?_
      refine wq_gi (p' := 25) (ck_48 _ _ rfl) rfl (congrArg Prod.fst (co_kt y5)) rfl (co_cb y5) ?_
      refine wq_k2 (p' := 28) (ck_48 _ _ rfl) rfl ⟨by omega, by omega⟩ ⟨by omega, by omega⟩ (fun c11 => ?_) (fun c12 => ?_)
      · have c11 : (cbv (U (Int.toNat (k))) (S (Int.toNat (k)))) ≤ x := c11
        refine av_wp_sqF ck_48 1 (pc' := 44) (lv' := [some (.inr (.inr (.inl (some (26))))), some (.inl k), some (.inl l), some (.inl x), some (.inr (.inr (.inl (some (t3)))))]) (st' := [.inl (0)]) (h' := h) rfl ?_
        refine av_wp_ret (v := some (.inl (0))) (ck_48 _ _ rfl) rfl rfl ?_
        exact hq0 (by omega)
      · have c12 : x < (cbv (U (Int.toNat (k))) (S (Int.toNat (k)))) := c12
        refine av_wp_sqF ck_48 2 (pc' := 30) (lv' := [some (.inr (.inr (.inl (some (26))))), some (.inl k), some (.inl l), some (.inl x), some (.inr (.inr (.inl (some (t3)))))]) (st' := [.inr (.inr (.inl (some (26)))), .inr (.inr (.inl (some (26))))]) (h' := h) rfl ?_
        refine wq_gr (p' := 33) (ck_48 _ _ rfl) rfl (congrArg Prod.fst (ly_k C.1.1 26 rfl)) rfl (ly_g C.1.1 26 1 35 rfl) ?_
        refine av_wp_sqF ck_48 3 (pc' := 37) (lv' := [some (.inr (.inr (.inl (some (26))))), some (.inl k), some (.inl l), some (.inl x), some (.inr (.inr (.inl (some (t3)))))]) (st' := [.inl l, .inl k, .inr (.inr (.inl (some (t3)))), .inr (.inr (.inl (some (35)))), .inr (.inr (.inl (some (26))))]) (h' := h) rfl ?_
        refine wq_cv (p' := 40) (av_qc (.invokevirtual 85) 51 4 0 3) 5 cd_51 [.inl l, .inl k, .inr (.inr (.inl (some (t3)))), .inr (.inr (.inl (some (35))))] (26) 3 [some (.inr (.inr (.inl (some (26))))), some (.inr (.inr (.inl (some (35))))), some (.inr (.inr (.inl (some (t3))))), some (.inl k), some (.inl l)] (ck_48 _ _ rfl) rfl rfl pp_51 rfl rfl rfl (congrArg Prod.fst (ly_k C.1.1 26 rfl)) rfl rfl rfl rfl ?_
        refine cz_51 C (Or.inl rfl) y5 y6 k (by omega) (by omega) CR.1 (fun q hq => (CR.1 (Int.toNat k) (by omega)).2.2.1 q hq |> fun w => ⟨w.1, by omega⟩) CR.2.1 CR.2.2.1 l ql SU (fun l h1 h2 => (rl_8 (CR.2.2.2 l h1 h2)).1) (fun z13 => ?_) (fun z13 z14 z15 h16 r17 n18 a19 C20 F21 U22 E23 Z24 T25 => ?_)
        · show av_wp _ cd_48 40 [some (.inr (.inr (.inl (some (26))))), some (.inl k), some (.inl l), some (.inl x), some (.inr (.inr (.inl (some (t3)))))] [.inl (0)] h _
          refine av_wp_sqF ck_48 2 (pc' := 44) (lv' := [some (.inr (.inr (.inl (some (26))))), some (.inl k), some (.inl l), some (.inl x), some (.inr (.inr (.inl (some (t3)))))]) (st' := [.inl (0)]) (h' := h) rfl ?_
          refine av_wp_ret (v := some (.inl (0))) (ck_48 _ _ rfl) rfl rfl ?_
          exact hq0 (by omega)
        · show av_wp _ cd_48 40 [some (.inr (.inr (.inl (some (26))))), some (.inl k), some (.inl l), some (.inl x), some (.inr (.inr (.inl (some (t3)))))] [.inl (1)] h16 _
          refine av_wp_sqF ck_48 2 (pc' := 46) (lv' := [some (.inr (.inr (.inl (some (26))))), some (.inl k), some (.inl l), some (.inl x), some (.inr (.inr (.inl (some (t3)))))]) (st' := [.inr (.inr (.inl (some (26))))]) (h' := h16) rfl ?_
          refine wq_gr (p' := 49) (ck_48 _ _ rfl) rfl (congrArg Prod.fst (ly_k C20.1.1 26 rfl)) rfl (ly_g C20.1.1 26 1 35 rfl) ?_
          refine av_wp_sqF ck_48 1 (pc' := 50) (lv' := [some (.inr (.inr (.inl (some (26))))), some (.inl k), some (.inl l), some (.inl x), some (.inr (.inr (.inl (some (t3)))))]) (st' := [.inl x, .inr (.inr (.inl (some (35))))]) (h' := h16) rfl ?_
          refine wq_cv (p' := 53) (av_qc (.invokevirtual 89) 2 1 0 0) 2 cd_2 [.inl x] (35) 0 [some (.inr (.inr (.inl (some (35))))), some (.inl x)] (ck_48 _ _ rfl) rfl rfl pp_2 rfl rfl rfl (congrArg Prod.fst (bn_k0 C20.1.1 (Or.inl rfl))) rfl rfl rfl rfl ?_
          have G40 := CWF_sea (ro := (hA h (6 + Int.toNat l))) (CR.1 (Int.toNat k) (by omega)) (rl_8 (CR.2.2.2 l (by omega) (by omega))).1 (brv_b (U (Int.toNat k)) (srt U S (hA h (6 + Int.toNat l)) (Int.toNat k)))
          refine cy_2 E23 (FN_rf 35 h16) G40 T25 Z24 (x) (by omega) (fun v26 h27 a28 m29 m30 m31 E32 F33 Z34 T35 D36 B37 R38 p39 => ?_)
          have C41 := CJ_bn (Or.inl rfl) C20 F33 (ib_ic E32.1)
          have F42 := FP_tr F21 (FP_n F33)
          show av_wp _ cd_48 53 [some (.inr (.inr (.inl (some (26))))), some (.inl k), some (.inl l), some (.inl x), some (.inr (.inr (.inl (some (t3)))))] [.inl v26] h27 _
          refine av_wp_sqF ck_48 2 (pc' := 55) (lv' := [some (.inr (.inr (.inl (some (26))))), some (.inl k), some (.inl l), some (.inl x), some (.inr (.inr (.inl (some (t3)))))]) (st' := [.inl (1)]) (h' := h27) rfl ?_
          refine av_wp_ret (v := some (.inl (1))) (ck_48 _ _ rfl) rfl rfl ?_
          exact hq1 (by omega) (by omega) (by omega) h27 _ _ _ _ _ _ _ _ C41 F42 U22 E32 Z34 T35 D36 B37 R38
end
