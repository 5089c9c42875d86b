section
/-! THE REFERENCE DECIDES: step by step -/
theorem LR_z {u ro : Nat → Int} {a : Nat → Nat → Int} {s : Nat} {g h : av_H} (x : LR u ro a s (hA g)) (Z : ZE [113, 114, 115] [50, 51, 52, 53] g h) : LR u ro a s (hA h) := LR_c x (fun q hq => by
  refine Z.1 q ?_
  rcases (show q = 95 ∨ q = 96 ∨ q = 97 ∨ q = 99 ∨ q = 100 ∨ q = 101 ∨ q = 102 ∨ q = 103 ∨ q = 104 ∨ q = 109 ∨ q = 110 ∨ q = 111 by omega) with e | e | e | e | e | e | e | e | e | e | e | e <;> subst e <;> rfl)
theorem ZE_mo {L K L' K' : List Nat} {g h : av_H} (Z : ZE L K g h) (h1 : ∀ q, L'.elem q = false → L.elem q = false) (h2 : ∀ q, K'.elem q = false → K.elem q = false) : ZE L' K' g h := ⟨fun q e => Z.1 q (h1 q e), fun q e => Z.2 q (h2 q e)⟩
theorem elc {a q : Nat} {L : List Nat} : (a :: L).elem q = false ↔ (¬ q = a ∧ L.elem q = false) := by
  have e : (a :: L).elem q = (match q == a with | true => true | false => L.elem q) := rfl
  rw [e]
  by_cases c : q = a
  · subst c
    rw [show (q == q) = true from beq_self_eq_true q]
    exact ⟨fun z => (by cases z), fun z => absurd rfl z.1⟩
  · rw [show (q == a) = false from beq_false_of_ne c]
    exact ⟨fun z => ⟨c, z⟩, fun z => z.2⟩
theorem el_e (q : Nat) (h : [113, 114, 115].elem q = false) : [114, 115].elem q = false := (elc.mp h).2
theorem el_n (q : Nat) (h : [50, 51, 52, 53].elem q = false) : ([] : List Nat).elem q = false := rfl
theorem ZE_en {g h : av_H} (Z : ZE [114, 115] [] g h) : ZE [113, 114, 115] [50, 51, 52, 53] g h := ZE_mo Z el_e el_n
def R2P (t : Int × Int) : Prop := (-1 ≤ t.1 ∧ t.1 ≤ 9999) ∧ (0 ≤ t.2 ∧ t.2 ≤ 4)
theorem R2P_0 : R2P (9999, 0) := by
  refine ⟨?_, ?_⟩
  · show (-1 : Int) ≤ 9999 ∧ (9999 : Int) ≤ 9999; omega
  · show (0 : Int) ≤ 0 ∧ (0 : Int) ≤ 4; omega
theorem R2P_e {t : Int × Int} {h c : Int} (x : R2P t) (hh : -1 ≤ h ∧ h ≤ 9999) (hc : 0 ≤ c ∧ c ≤ 4) : R2P (eb2 t h c) := by
  unfold eb2
  split
  · exact x
  · exact ⟨hh, hc⟩
section
variable {u ro : Nat → Int} {a : Nat → Nat → Int} {s : Nat}
theorem frv_r (H : HBd s a) {o : Nat} : ∀ d, o + 1 + d ≤ s → R2P (frv u ro a o d) := by
  intro d
  induction d with
  | zero => intro _; exact R2P_0
  | succ d ih =>
    intro hd
    have b := bkv_r (u := u) (ro := ro) H (show o + 1 + d < s by omega) (o : Int)
    have n := nov_r (u := u) (ro := ro) H (show o + 1 + d < s by omega) (o : Int)
    exact R2P_e (R2P_e (ih (by omega)) (by omega) (by omega)) (by omega) (by omega)
end
def FOI (u ro : Nat → Int) (a : Nat → Nat → Int) (s o : Nat) (A : Nat → Nat → Int) : Prop := ∀ q, q < o → a 2 q ≠ 0 → A 113 q = o5 ro a q ∧ E2 A q = fre2 u ro a s q
def FOJ (u ro : Nat → Int) (a : Nat → Nat → Int) (s o k : Nat) (A : Nat → Nat → Int) : Prop := FOI u ro a s o A ∧ A 113 o = o5 ro a o ∧ E2 A o = frv u ro a o (k - (o + 1))
section
variable {u ro : Nat → Int} {a : Nat → Nat → Int} {s o k : Nat} {A A' : Nat → Nat → Int}
theorem FOI_0 : FOI u ro a s 0 A := fun q hq => absurd hq (by omega)
theorem FOI_n (x : FOI u ro a s o A) (h : a 2 o = 0) : FOI u ro a s (o + 1) A := fun q hq h2 => by
  by_cases e : q = o
  · rw [e] at h2; exact absurd h h2
  · exact x q (by omega) h2
theorem FOI_c (x : FOI u ro a s o A) (h : ∀ q, q ≠ o → A' 113 q = A 113 q ∧ A' 114 q = A 114 q ∧ A' 115 q = A 115 q) : FOI u ro a s o A' := fun q hq h2 => by
  have y := h q (by omega)
  unfold E2
  rw [y.1, y.2.1, y.2.2]
  exact x q hq h2
theorem FOI_s (x : FOI u ro a s o A) (h1 : A 113 o = o5 ro a o) (h2 : E2 A o = fre2 u ro a s o) : FOI u ro a s (o + 1) A := fun q hq h3 => by
  by_cases e : q = o
  · rw [e]; exact ⟨h1, h2⟩
  · exact x q (by omega) h3
end
/-! a bargain, as the reference has it -/
def BRR (t : T3) (h : av_H) : Prop := (t.2.2 = 9999 ∧ hF h 77 50 = 0) ∨ (t.2.2 ≠ 9999 ∧ hF h 77 50 = 1 ∧ hF h 77 51 = t.1 ∧ hF h 77 52 = t.2.1 ∧ hF h 77 53 = t.2.2)
section
variable {u ro : Nat → Int} {a : Nat → Nat → Int} {s k : Nat}
theorem opn_R {f e h : Int} (hf : -1 ≤ f) (hh : 0 ≤ h) : opR f e h = opn f e h := by
  unfold opR opn
  split <;> split <;> omega
theorem tk_i (W : UW u s) (H : HBd s a) {q : Nat} {h : Int} (hh : h ≤ 9999) : (∀ i, q < i → i < s → ¬ TKB u ro a q h i) ↔ h ≤ tbv u ro a q s := by
  rw [tbv_i H q h hh s (Nat.le_refl s)]
  constructor
  · intro z j hj h1 h2
    have w := W j hj
    have hr := hw_r H hj (ro 4)
    unfold hB at h1 ⊢
    by_cases c : u (21 * j + 0) = 5 ∧ 0 ≤ u (21 * j + 3) ∧ u (21 * j + 3) < (j : Int)
    · rw [if_pos c] at h1 ⊢
      have y := z j (by omega) hj
      unfold TKB at y
      omega
    · rw [if_neg c] at h1
      exact absurd rfl h1
  · intro z i h1 h2 y
    unfold TKB at y
    have w := W i h2
    have e : hB u ro a i = hw a i (ro 4) := if_pos ⟨y.1, by omega, by omega⟩
    have y2 := z i h2 (by rw [e]; omega) y.2.1
    rw [e] at y2
    omega
theorem an_i (W : UW u s) (H : HBd s a) {q : Nat} {h : Int} (hh : h < 9999) : (∀ i, q < i → i < s → ¬ ANB u a q h i) ↔ h < awv u a q s := by
  rw [awv_i H q h hh s (Nat.le_refl s)]
  constructor
  · intro z j hj h1 h2
    have w := W j hj
    unfold ans at h1
    split at h1
    · have y := z j (by omega) hj
      unfold ANB at y
      omega
    · omega
  · intro z i h1 h2 y
    unfold ANB at y
    have w := W i h2
    have e : ans u i = 1 := if_pos (by omega)
    have y2 := z i h2 e y.2.1
    omega
end
theorem BRR_n {t : T3} {g h : av_H} (x : BRR t g) (e : ∀ k, 50 ≤ k → k ≤ 53 → hF h 77 k = hF g 77 k) : BRR t h := by
  unfold BRR
  rw [e 50 (by omega) (by omega), e 51 (by omega) (by omega), e 52 (by omega) (by omega), e 53 (by omega) (by omega)]
  exact x
section
variable {u ro : Nat → Int} {a : Nat → Nat → Int} {s o k : Nat} {A : Nat → Nat → Int}
theorem FOJ_s {b n o' : Int} (x1 : FOI u ro a s o A) (x2 : A 113 o = o5 ro a o) (E : E2 A o = eb2 (eb2 (frv u ro a o (k - (o + 1))) b 1) n 2) (ho : (o : Int) = o') (hb : b = bkv u ro a k o') (hn : n = nov u ro a k o') (hk : o < k) : FOJ u ro a s o (k + 1) A := by
  subst ho
  refine ⟨x1, x2, ?_⟩
  rw [E, hb, hn, show k + 1 - (o + 1) = (k - (o + 1)) + 1 by omega]
  show _ = eb2 (eb2 (frv u ro a o (k - (o + 1))) (bkv u ro a (o + 1 + (k - (o + 1))) (o : Int)) 1) (nov u ro a (o + 1 + (k - (o + 1))) (o : Int)) 2
  rw [show o + 1 + (k - (o + 1)) = k by omega]
end
/-- what offersTo does -/
def OFP (x k z : Int) (h h' : av_H) : Prop := (hF h 77 50 = 1 ∧ hF h 77 53 ≤ z ∧ ∀ q, hF h' 77 q = hF h 77 q) ∨ (¬ (hF h 77 50 = 1 ∧ hF h 77 53 ≤ z) ∧ hF h' 77 50 = 1 ∧ hF h' 77 51 = x ∧ hF h' 77 52 = k ∧ hF h' 77 53 = z)
theorem BRR_o {t : T3} {h h' : av_H} {x k z : Int} (B : BRR t h) (P : OFP x k z h h') (hz : z < 9999) : (z < t.2.2 → BRR (x, k, z) h') ∧ (¬ z < t.2.2 → BRR t h') := by
  constructor
  · intro lt
    have set : hF h' 77 50 = 1 ∧ hF h' 77 51 = x ∧ hF h' 77 52 = k ∧ hF h' 77 53 = z := by
      rcases P with p | p
      · rcases B with b | b
        · omega
        · omega
      · exact p.2
    exact Or.inr ⟨show z ≠ 9999 by omega, set⟩
  · intro nlt
    rcases P with p | p
    · exact BRR_n B (fun q _ _ => p.2.2 q)
    · rcases B with b | b
      · omega
      · omega
section
variable {u ro : Nat → Int} {a : Nat → Nat → Int} {s k : Nat} {h h' : av_H}
theorem BRR_yn (B : BRR (yv u ro a s k) h) (n : ∀ m, ¬ yc u ro a s k m = 1) : BRR (yv u ro a s (k + 1)) h := by
  rw [yv_n rfl (n _)]
  exact B
theorem BRR_ys {x0 k0 z : Int} (B : BRR (yv u ro a s k) h) (P : OFP x0 k0 z h h') (hx : x0 = (k : Int)) (hk : u (21 * k + 3) = k0) (hz : hw a k (yw u ro k) = z) (hz9 : z < 9999) (y : ∀ m, z < m → yc u ro a s k m = 1) (n : ∀ m, ¬ z < m → ¬ yc u ro a s k m = 1) : BRR (yv u ro a s (k + 1)) h' := by
  have b := BRR_o B P hz9
  by_cases c : z < (yv u ro a s k).2.2
  · rw [yv_y rfl (y _ c) hk hz, ← hx]
    exact b.1 c
  · rw [yv_n rfl (n _ c)]
    exact b.2 c
theorem BRR_sn (B : BRR (sv u ro a s k) h) (n : ∀ m, ¬ slc u ro a s k m = 1) : BRR (sv u ro a s (k + 1)) h := by
  rw [sv_n rfl (n _)]
  exact B
theorem BRR_ss {k0 z r e : Int} (B : BRR (sv u ro a s k) h) (P : OFP (-1) k0 z h h') (hk : k0 = (k : Int)) (hr : hw a k 2 = r) (he : ro 8 = e) (hz : r + e = z) (hz9 : z < 9999) (y : ∀ m, z < m → slc u ro a s k m = 1) (n : ∀ m, ¬ z < m → ¬ slc u ro a s k m = 1) : BRR (sv u ro a s (k + 1)) h' := by
  have b := BRR_o B P hz9
  by_cases c : z < (sv u ro a s k).2.2
  · rw [sv_y rfl (y _ c) hr he, hz, ← hk]
    exact b.1 c
  · rw [sv_n rfl (n _ c)]
    exact b.2 c
end
section
variable {sc : av_Sr} {cd : List (Nat × av_E)} {Q : Option av_V → av_H → Prop} {pc p' : Nat} {lv : av_L} {r' : List av_V} {g h : av_H} {n a m : Int}
theorem xm_pf {idx f : Nat} {v : Int} (hx : cd.lookup pc = some (av_qf (.putfield idx) 8 f 0)) (hp : pc + 3 = p') (I : IMF n a m h) (F : FM g h) (hf : (f = 51 ∧ -1 ≤ v ∧ v ≤ 11) ∨ (f = 52 ∧ 0 ≤ v ∧ v ≤ 11) ∨ f = 53 ∨ f = 60 ∨ f = 61) (hm : mF 77 f = true) (hw : ∀ h', IMF n a m h' → FM g h' → h' = hwF h 77 f v → av_wp sc cd p' lv r' h' Q) : av_wp sc cd pc lv (.inl v :: .inr (.inr (.inl (some 77))) :: r') h Q :=
  wq_pi hx hp (congrArg Prod.fst (ly_k I.1.1.1 77 rfl)) rfl (hw _ ⟨IM_wF I.1 (by omega), (hF_oth (by omega)).trans I.2.1, (hF_oth (by omega)).trans I.2.2.1, (hF_oth (by omega)).trans I.2.2.2⟩ (FM_wF F hm) rfl)
theorem xm_pb {idx : Nat} {v : Int} (hx : cd.lookup pc = some (av_qf (.putfield idx) 8 50 3)) (hp : pc + 3 = p') (I : IMF n a m h) (F : FM g h) (hv : v = 0 ∨ v = 1) (hw : ∀ h', IMF n a m h' → FM g h' → h' = hwF h 77 50 v → av_wp sc cd p' lv r' h' Q) : av_wp sc cd pc lv (.inl v :: .inr (.inr (.inl (some 77))) :: r') h Q :=
  wq_pb hx hp (congrArg Prod.fst (ly_k I.1.1.1 77 rfl)) rfl hv (hw _ ⟨IM_wF I.1 (by omega), (hF_oth (by omega)).trans I.2.1, (hF_oth (by omega)).trans I.2.2.1, (hF_oth (by omega)).trans I.2.2.2⟩ (FM_wF F rfl) rfl)
end
theorem hF_es {h h' : av_H} {f : Nat} {v : Int} (e : h' = hwF h 77 f v) : hF h' 77 f = v := by
  subst e
  exact hF_self
theorem hF_eo {h h' : av_H} {f k : Nat} {v : Int} (e : h' = hwF h 77 f v) (m : k ≠ f) : hF h' 77 k = hF h 77 k := by
  subst e
  exact hF_oth m
theorem ZE_f4 {L : List Nat} {g h k : av_H} (a : ZE L [50, 51, 52, 53] g h) (b : ZE [] [50, 51, 52, 53] h k) : ZE L [50, 51, 52, 53] g k := ZE_tr a (ZE_mo b (fun _ _ => rfl) (fun _ z => z))
theorem ZE_e2 {g h k : av_H} (a : ZE [113, 114, 115] [50, 51, 52, 53] g h) (b : ZE [114, 115] [] h k) : ZE [113, 114, 115] [50, 51, 52, 53] g k := ZE_tr a (ZE_en b)
theorem BRR_53 {t : T3} {h : av_H} (B : BRR t h) (M : MBR t) : hF h 77 50 = 1 → -1 ≤ hF h 77 53 ∧ hF h 77 53 ≤ 9999 := fun e => by
  rcases B with b | b
  · omega
  · have := M.2.2
    omega
theorem LR_z0 {u ro : Nat → Int} {a : Nat → Nat → Int} {s : Nat} {g h : av_H} {K : List Nat} (x : LR u ro a s (hA g)) (Z : ZE [] K g h) : LR u ro a s (hA h) := LR_c x (fun q _ => Z.1 q rfl)
theorem ys_said {u ro : Nat → Int} {s k : Nat} (W : UW u s) (hk : k < s) (h : ysv u ro k ≠ 0) : 0 ≤ u (21 * k + 3) ∧ u (21 * k + 3) < (k : Int) := by
  have w := W k hk
  have k2 : 2 ≤ u (21 * k + 0) := by
    unfold ysv at h
    split at h
    · next z =>
      rcases z with z | z | z
      · omega
      · unfold smv at z
        split at z
        · omega
        · omega
      · omega
    · exact absurd rfl h
  omega
theorem opn_1 (f e h : Int) : opn f e h = 1 → h ≠ -1 ∧ f ≠ -1 ∧ f ≤ h ∧ h < e := by
  unfold opn
  split
  · next z => exact fun _ => z
  · intro z; omega
end
section
/-! THE REFERENCE'S OFFERS AND BARGAIN, exactly -/
set_option maxRecDepth 100000 in
set_option maxHeartbeats 4000000 in
theorem cx_174 {g h : av_H} {n a m : Int} (I : IMF n a m h) (F : FM g h) {u ro : Nat → Int} {a0 : Nat → Nat → Int} {s : Nat} (en : n = (s : Int)) (X : LR u ro a0 s (hA h)) (W : UW u s) (R : RLW ro) (H : HBd s a0) {Q : Option av_V → av_H → Prop} (hq : ∀ h', IMF n a m h' → FM g h' → ZE [113, 114, 115] [50, 51, 52, 53] h h' → FOI u ro a0 s s (hA h') → Q none h') : av_wp none cd_174 0 [some (.inr (.inr (.inl (some (77))))), none, none] [] h Q := by
  have gn := im_n I.1.1
  rw [I.2.1] at gn
  have ga := im_a I.1.1
  rw [I.2.2.1] at ga
  have gm := im_cm I.1.1
  rw [I.2.2.2] at gm
  have s12 : s ≤ 12 := by omega
  have Z := ZE_rf (L := [113, 114, 115]) (K := [50, 51, 52, 53]) h
  refine av_wp_sqF ck_174 2 (pc' := 2) (lv' := [some (.inr (.inr (.inl (some (77))))), some (.inl (0)), none]) (st' := []) (h' := h) rfl ?_
  have L9 : ∀ (m8 : Nat) (k1 : Int) (a2 : Option av_V) (h3 : av_H), av_lg a2 = false → k1 ≤ (s : Int) → (0 ≤ k1 ∧ k1 ≤ 12) → IMF n a m h3 → FM g h3 → ZE [113, 114, 115] [50, 51, 52, 53] h h3 → FOI u ro a0 s (Int.toNat k1) (hA h3) → (12 - k1).toNat = m8 → av_wp none cd_174 2 [some (.inr (.inr (.inl (some (77))))), some (.inl k1), a2] [] h3 Q := by
    intro m8
    induction m8 using Nat.strongRecOn with
    | _ m8 I10 =>
      intro k1 a2 h3 g12 g13 g14 I4 F5 Z6 X7 e11
      have la2 := g12
      refine av_wp_sqF ck_174 2 (pc' := 4) (lv' := [some (.inr (.inr (.inl (some (77))))), some (.inl k1), a2]) (st' := [.inr (.inr (.inl (some (77)))), .inl k1]) (h' := h3) rfl ?_
      refine wq_gi (p' := 7) (ck_174 _ _ rfl) rfl (congrArg Prod.fst (ly_k I4.1.1.1 77 rfl)) rfl (I4.2.1) ?_
      refine wq_k2 (p' := 10) (ck_174 _ _ rfl) rfl ⟨by omega, by omega⟩ ⟨by omega, by omega⟩ (fun c15 => ?_) (fun c16 => ?_)
      · have c15 : n ≤ k1 := c15
        refine av_wp_ret (v := none) (ck_174 _ _ rfl) rfl rfl ?_
        have z17 : Int.toNat k1 = s := by omega
        rw [z17] at X7
        exact hq h3 I4 F5 Z6 X7
      · have c16 : k1 < n := c16
        refine av_wp_sqF ck_174 2 (pc' := 12) (lv' := [some (.inr (.inr (.inl (some (77))))), some (.inl k1), a2]) (st' := [.inl k1, .inr (.inr (.inl (some (77))))]) (h' := h3) rfl ?_
        refine wq_cv (p' := 15) (av_qc (.invokevirtual 369) 168 1 0 8) 2 cd_168 [.inl k1] (77) 8 [some (.inr (.inr (.inl (some (77))))), some (.inl k1)] (ck_174 _ _ rfl) rfl rfl pp_168 rfl rfl rfl (congrArg Prod.fst (ly_k I4.1.1.1 77 rfl)) rfl rfl rfl rfl ?_
        refine cx_168 I4 F5 en (LR_z X Z6) W R H (k1) (by omega) (fun v18 p19 => ?_)
        have p19b := of_b u ro (Int.toNat (k1))
        rw [← (X.1 (Int.toNat (k1)) (by omega)).2.2.2.1, ← p19] at p19b
        show av_wp _ cd_174 15 [some (.inr (.inr (.inl (some (77))))), some (.inl k1), a2] [.inl v18] h3 _
        refine wq_k1 (p' := 18) (ck_174 _ _ rfl) rfl ⟨by omega, by omega⟩ (fun c20 => ?_) (fun c21 => ?_)
        · have c20 : v18 ≠ (0) := c20
          refine av_wp_sqF ck_174 1 (pc' := 22) (lv' := [some (.inr (.inr (.inl (some (77))))), some (.inl k1), a2]) (st' := [.inr (.inr (.inl (some (77))))]) (h' := h3) rfl ?_
          refine wq_gr (p' := 25) (ck_174 _ _ rfl) rfl (congrArg Prod.fst (ly_k I4.1.1.1 77 rfl)) rfl (ly_g I4.1.1.1 77 47 113 rfl) ?_
          refine av_wp_sqF ck_174 2 (pc' := 27) (lv' := [some (.inr (.inr (.inl (some (77))))), some (.inl k1), a2]) (st' := [.inr (.inr (.inl (some (77)))), .inl k1, .inr (.inr (.inl (some (113))))]) (h' := h3) rfl ?_
          refine wq_gr (p' := 30) (ck_174 _ _ rfl) rfl (congrArg Prod.fst (ly_k I4.1.1.1 77 rfl)) rfl (ly_g I4.1.1.1 77 37 103 rfl) ?_
          refine av_wp_sqF ck_174 1 (pc' := 31) (lv' := [some (.inr (.inr (.inl (some (77))))), some (.inl k1), a2]) (st' := [.inl k1, .inr (.inr (.inl (some (103)))), .inl k1, .inr (.inr (.inl (some (113))))]) (h' := h3) rfl ?_
          obtain ⟨v22, e23⟩ : ∃ v, hA h3 103 (Int.toNat (k1)) = v := ⟨_, rfl⟩
          have g24 : 0 ≤ hA h3 103 (Int.toNat (k1)) ∧ hA h3 103 (Int.toNat (k1)) ≤ 1 := im_w I4.1.1 103 (by decide) (by decide) _
          rw [e23] at g24
          have y25 : hA h 103 (Int.toNat (k1)) = v22 := (congrFun (Z6.1 103 rfl) _).symm.trans e23
          have y26 := ((LR_z X Z6).1 (Int.toNat (k1)) (by omega)).1.2.2.2.2.2.2
          rw [e23] at y26
          refine wq_bl (p' := 32) (n := 12) (ck_174 _ _ rfl) rfl ((Or.inr (ly_k I4.1.1.1 103 rfl))) (by omega) (e23) ?_
          have J31 : ∀ (j28 : Int), (-1 ≤ j28 ∧ j28 ≤ 5000) → j28 = o5 ro a0 (Int.toNat (k1)) →  av_wp none cd_174 50 [some (.inr (.inr (.inl (some (77))))), some (.inl k1), a2] [.inl j28, .inl k1, .inr (.inr (.inl (some (113))))] h3 Q := by
            intro j28 g29 g30
            refine xm_as (p' := 51) (l := 12) rfl rfl I4 F5 (ly_k I4.1.1.1 113 rfl) (by omega) (by omega) (fun h32 I33 F34 e35 => ?_)
            have Z36 := ZE_a Z6 e35 rfl
            refine av_wp_sqF ck_174 1 (pc' := 52) (lv' := [some (.inr (.inr (.inl (some (77))))), some (.inl k1), a2]) (st' := [.inr (.inr (.inl (some (77))))]) (h' := h32) rfl ?_
            refine wq_gr (p' := 55) (ck_174 _ _ rfl) rfl (congrArg Prod.fst (ly_k I33.1.1.1 77 rfl)) rfl (ly_g I33.1.1.1 77 48 114 rfl) ?_
            refine av_wp_sqF ck_174 2 (pc' := 59) (lv' := [some (.inr (.inr (.inl (some (77))))), some (.inl k1), a2]) (st' := [.inl (9999), .inl k1, .inr (.inr (.inl (some (114))))]) (h' := h32) rfl ?_
            refine xm_as (p' := 60) (l := 12) rfl rfl I33 F34 (ly_k I33.1.1.1 114 rfl) (by omega) (by omega) (fun h37 I38 F39 e40 => ?_)
            have Z41 := ZE_a Z36 e40 rfl
            refine av_wp_sqF ck_174 1 (pc' := 61) (lv' := [some (.inr (.inr (.inl (some (77))))), some (.inl k1), a2]) (st' := [.inr (.inr (.inl (some (77))))]) (h' := h37) rfl ?_
            refine wq_gr (p' := 64) (ck_174 _ _ rfl) rfl (congrArg Prod.fst (ly_k I38.1.1.1 77 rfl)) rfl (ly_g I38.1.1.1 77 49 115 rfl) ?_
            refine av_wp_sqF ck_174 2 (pc' := 66) (lv' := [some (.inr (.inr (.inl (some (77))))), some (.inl k1), a2]) (st' := [.inl (0), .inl k1, .inr (.inr (.inl (some (115))))]) (h' := h37) rfl ?_
            refine xm_as (p' := 67) (l := 12) rfl rfl I38 F39 (ly_k I38.1.1.1 115 rfl) (by omega) (by omega) (fun h42 I43 F44 e45 => ?_)
            have Z46 := ZE_a Z41 e45 rfl
            have Y47 : FOI u ro a0 s (Int.toNat (k1)) (hA h42) := FOI_c X7 (fun q hq => ⟨by rw [hA_en e45 (by decide), hA_en e40 (by decide), hA_eu e35, u1_ne hq], by rw [hA_en e45 (by decide), hA_eu e40, u1_ne hq, hA_en e35 (by decide)], by rw [hA_eu e45, u1_ne hq, hA_en e40 (by decide), hA_en e35 (by decide)]⟩)
            have Y48 : hA h42 113 (Int.toNat (k1)) = o5 ro a0 (Int.toNat (k1)) := by rw [hA_en e45 (by decide), hA_en e40 (by decide), hA_eu e35, u1_eq]; exact g30
            have E49 : E2 (hA h42) (Int.toNat (k1)) = (9999, 0) := by unfold E2; rw [hA_en e45 (by decide), hA_eu e40, u1_eq, hA_eu e45, u1_eq]
            refine av_wp_sqF ck_174 4 (pc' := 71) (lv' := [some (.inr (.inr (.inl (some (77))))), some (.inl k1), some (.inl (k1 + (1)))]) (st' := []) (h' := h42) rfl ?_
            have L57 : ∀ (m56 : Nat) (k50 : Int) (h51 : av_H), k50 ≤ (s : Int) → k1 < k50 → (0 ≤ k50 ∧ k50 ≤ 12) → IMF n a m h51 → FM g h51 → ZE [113, 114, 115] [50, 51, 52, 53] h h51 → FOJ u ro a0 s (Int.toNat k1) (Int.toNat k50) (hA h51) → (12 - k50).toNat = m56 → av_wp none cd_174 71 [some (.inr (.inr (.inl (some (77))))), some (.inl k1), some (.inl k50)] [] h51 Q := by
              intro m56
              induction m56 using Nat.strongRecOn with
              | _ m56 I58 =>
                intro k50 h51 g60 g61 g62 I52 F53 Z54 X55 e59
                refine av_wp_sqF ck_174 2 (pc' := 73) (lv' := [some (.inr (.inr (.inl (some (77))))), some (.inl k1), some (.inl k50)]) (st' := [.inr (.inr (.inl (some (77)))), .inl k50]) (h' := h51) rfl ?_
                refine wq_gi (p' := 76) (ck_174 _ _ rfl) rfl (congrArg Prod.fst (ly_k I52.1.1.1 77 rfl)) rfl (I52.2.1) ?_
                refine wq_k2 (p' := 79) (ck_174 _ _ rfl) rfl ⟨by omega, by omega⟩ ⟨by omega, by omega⟩ (fun c63 => ?_) (fun c64 => ?_)
                · have c63 : n ≤ k50 := c63
                  refine av_wp_sqF ck_174 1 (pc' := 110) (lv' := [some (.inr (.inr (.inl (some (77))))), some (.inl k1), some (.inl k50)]) (st' := [.inr (.inr (.inl (some (77))))]) (h' := h51) rfl ?_
                  refine wq_gr (p' := 113) (ck_174 _ _ rfl) rfl (congrArg Prod.fst (ly_k I52.1.1.1 77 rfl)) rfl (ly_g I52.1.1.1 77 33 99 rfl) ?_
                  refine av_wp_sqF ck_174 1 (pc' := 114) (lv' := [some (.inr (.inr (.inl (some (77))))), some (.inl k1), some (.inl k50)]) (st' := [.inl k1, .inr (.inr (.inl (some (99))))]) (h' := h51) rfl ?_
                  obtain ⟨v65, e66⟩ : ∃ v, hA h51 99 (Int.toNat (k1)) = v := ⟨_, rfl⟩
                  have g67 : -1 ≤ hA h51 99 (Int.toNat (k1)) ∧ hA h51 99 (Int.toNat (k1)) ≤ 1999 := im_w I52.1.1 99 (by decide) (by decide) _
                  rw [e66] at g67
                  have y68 : hA h 99 (Int.toNat (k1)) = v65 := (congrFun (Z54.1 99 rfl) _).symm.trans e66
                  have y69 := ((LR_z X Z54).1 (Int.toNat (k1)) (by omega)).1.2.2.1
                  rw [e66] at y69
                  have g70 := W (Int.toNat (k1)) (by omega)
                  rw [← y69] at g70
                  refine wq_al (p' := 115) (n := 12) (ck_174 _ _ rfl) rfl (ly_k I52.1.1.1 99 rfl) (by omega) (e66) ?_
                  refine wq_k1 (p' := 118) (ck_174 _ _ rfl) rfl ⟨by omega, by omega⟩ (fun c71 => ?_) (fun c72 => ?_)
                  · have c71 : v65 < (0) := c71
                    refine av_wp_sqF ck_174 1 (pc' := 136) (lv' := [some (.inr (.inr (.inl (some (77))))), some (.inl k1), some (.inl k50)]) (st' := [.inr (.inr (.inl (some (77))))]) (h' := h51) rfl ?_
                    refine wq_gr (p' := 139) (ck_174 _ _ rfl) rfl (congrArg Prod.fst (ly_k I52.1.1.1 77 rfl)) rfl (ly_g I52.1.1.1 77 26 95 rfl) ?_
                    refine av_wp_sqF ck_174 1 (pc' := 141) (lv' := [some (.inr (.inr (.inl (some (77))))), some (.inl k1), some (.inl k50)]) (st' := [.inl (7), .inr (.inr (.inl (some (95))))]) (h' := h51) rfl ?_
                    obtain ⟨v73, e74⟩ : ∃ v, hA h51 95 (Int.toNat ((7))) = v := ⟨_, rfl⟩
                    have y76 : hA h 95 (Int.toNat ((7))) = v73 := (congrFun (Z54.1 95 rfl) _).symm.trans e74
                    have y77 : ro 7 = v73 := ((LR_z X Z54).2 7 (by omega)).symm.trans e74
                    have g78 := rl_7 R
                    refine wq_al (p' := 142) (n := 13) (ck_174 _ _ rfl) rfl (ly_k I52.1.1.1 95 rfl) (by omega) (e74) ?_
                    refine wq_k1 (p' := 145) (ck_174 _ _ rfl) rfl ⟨by omega, by omega⟩ (fun c79 => ?_) (fun c80 => ?_)
                    · have c79 : v73 < (0) := c79
                      refine av_wp_sqF ck_174 2 (pc' := 2) (lv' := [some (.inr (.inr (.inl (some (77))))), some (.inl (k1 + (1))), some (.inl k50)]) (st' := []) (h' := h51) rfl ?_
                      exact I10 _ (by omega) ((k1 + (1))) (some (.inl k50)) h51 rfl (by omega) (by omega) I52 F53 Z54 (by rw [show Int.toNat (k1 + (1)) = Int.toNat k1 + 1 by omega]; exact FOI_s X55.1 X55.2.1 (by rw [X55.2.2, show Int.toNat k50 = s by omega]; unfold fre2; rw [if_neg (by omega), if_neg (by omega)])) rfl
                    · have c80 : (0) ≤ v73 := c80
                      refine av_wp_sqF ck_174 1 (pc' := 146) (lv' := [some (.inr (.inr (.inl (some (77))))), some (.inl k1), some (.inl k50)]) (st' := [.inr (.inr (.inl (some (77))))]) (h' := h51) rfl ?_
                      refine wq_gr (p' := 149) (ck_174 _ _ rfl) rfl (congrArg Prod.fst (ly_k I52.1.1.1 77 rfl)) rfl (ly_g I52.1.1.1 77 44 110 rfl) ?_
                      refine av_wp_sqF ck_174 1 (pc' := 150) (lv' := [some (.inr (.inr (.inl (some (77))))), some (.inl k1), some (.inl k50)]) (st' := [.inl k1, .inr (.inr (.inl (some (110))))]) (h' := h51) rfl ?_
                      obtain ⟨v81, e82⟩ : ∃ v, hA h51 110 (Int.toNat (k1)) = v := ⟨_, rfl⟩
                      have y84 : hA h 110 (Int.toNat (k1)) = v81 := (congrFun (Z54.1 110 rfl) _).symm.trans e82
                      have y85 : v81 = hw a0 (Int.toNat (k1)) 1 := LR_w (LR_z X Z54) (by omega) (by omega) s12 (Or.inr (Or.inl ⟨rfl, e82.symm⟩))
                      have g86 := hw_r H (k := (Int.toNat (k1))) (by omega) 1
                      rw [← y85] at g86
                      refine wq_al (p' := 151) (n := 12) (ck_174 _ _ rfl) rfl (ly_k I52.1.1.1 110 rfl) (by omega) (e82) ?_
                      refine wq_k1 (p' := 154) (ck_174 _ _ rfl) rfl ⟨by omega, by omega⟩ (fun c87 => ?_) (fun c88 => ?_)
                      · have c87 : v81 < (0) := c87
                        refine av_wp_sqF ck_174 2 (pc' := 2) (lv' := [some (.inr (.inr (.inl (some (77))))), some (.inl (k1 + (1))), some (.inl k50)]) (st' := []) (h' := h51) rfl ?_
                        exact I10 _ (by omega) ((k1 + (1))) (some (.inl k50)) h51 rfl (by omega) (by omega) I52 F53 Z54 (by rw [show Int.toNat (k1 + (1)) = Int.toNat k1 + 1 by omega]; exact FOI_s X55.1 X55.2.1 (by rw [X55.2.2, show Int.toNat k50 = s by omega]; unfold fre2; rw [if_neg (by omega), if_neg (by omega)])) rfl
                      · have c88 : (0) ≤ v81 := c88
                        refine av_wp_sqF ck_174 3 (pc' := 157) (lv' := [some (.inr (.inr (.inl (some (77))))), some (.inl k1), some (.inl k50)]) (st' := [.inr (.inr (.inl (some (77)))), .inl k1, .inr (.inr (.inl (some (77))))]) (h' := h51) rfl ?_
                        refine wq_gr (p' := 160) (ck_174 _ _ rfl) rfl (congrArg Prod.fst (ly_k I52.1.1.1 77 rfl)) rfl (ly_g I52.1.1.1 77 44 110 rfl) ?_
                        refine av_wp_sqF ck_174 1 (pc' := 161) (lv' := [some (.inr (.inr (.inl (some (77))))), some (.inl k1), some (.inl k50)]) (st' := [.inl k1, .inr (.inr (.inl (some (110)))), .inl k1, .inr (.inr (.inl (some (77))))]) (h' := h51) rfl ?_
                        obtain ⟨v89, e90⟩ : ∃ v, hA h51 110 (Int.toNat (k1)) = v := ⟨_, rfl⟩
                        have y92 : hA h 110 (Int.toNat (k1)) = v89 := (congrFun (Z54.1 110 rfl) _).symm.trans e90
                        have y93 : v89 = hw a0 (Int.toNat (k1)) 1 := LR_w (LR_z X Z54) (by omega) (by omega) s12 (Or.inr (Or.inl ⟨rfl, e90.symm⟩))
                        have g94 := hw_r H (k := (Int.toNat (k1))) (by omega) 1
                        rw [← y93] at g94
                        refine wq_al (p' := 162) (n := 12) (ck_174 _ _ rfl) rfl (ly_k I52.1.1.1 110 rfl) (by omega) (e90) ?_
                        refine av_wp_sqF ck_174 1 (pc' := 163) (lv' := [some (.inr (.inr (.inl (some (77))))), some (.inl k1), some (.inl k50)]) (st' := [.inr (.inr (.inl (some (77)))), .inl v89, .inl k1, .inr (.inr (.inl (some (77))))]) (h' := h51) rfl ?_
                        refine wq_gr (p' := 166) (ck_174 _ _ rfl) rfl (congrArg Prod.fst (ly_k I52.1.1.1 77 rfl)) rfl (ly_g I52.1.1.1 77 26 95 rfl) ?_
                        refine av_wp_sqF ck_174 1 (pc' := 168) (lv' := [some (.inr (.inr (.inl (some (77))))), some (.inl k1), some (.inl k50)]) (st' := [.inl (7), .inr (.inr (.inl (some (95)))), .inl v89, .inl k1, .inr (.inr (.inl (some (77))))]) (h' := h51) rfl ?_
                        obtain ⟨v95, e96⟩ : ∃ v, hA h51 95 (Int.toNat ((7))) = v := ⟨_, rfl⟩
                        have y98 : hA h 95 (Int.toNat ((7))) = v95 := (congrFun (Z54.1 95 rfl) _).symm.trans e96
                        have y99 : ro 7 = v95 := ((LR_z X Z54).2 7 (by omega)).symm.trans e96
                        have g100 := rl_7 R
                        refine wq_al (p' := 169) (n := 13) (ck_174 _ _ rfl) rfl (ly_k I52.1.1.1 95 rfl) (by omega) (e96) ?_
                        refine av_wp_sqF ck_174 4 (pc' := 173) (lv' := [some (.inr (.inr (.inl (some (77))))), some (.inl k1), some (.inl k50)]) (st' := [.inl (4), .inl ((v89 + v95) + (1)), .inl k1, .inr (.inr (.inl (some (77))))]) (h' := h51) rfl ?_
                        refine wq_cv (p' := 176) (av_qc (.invokevirtual 375) 173 3 0 8) 4 cd_173 [.inl (4), .inl ((v89 + v95) + (1)), .inl k1] (77) 8 [some (.inr (.inr (.inl (some (77))))), some (.inl k1), some (.inl ((v89 + v95) + (1))), some (.inl (4))] (ck_174 _ _ rfl) rfl rfl pp_173 rfl rfl rfl (congrArg Prod.fst (ly_k I52.1.1.1 77 rfl)) rfl rfl rfl rfl ?_
                        have r101 : R2P (E2 (hA h51) (Int.toNat (k1))) := by rw [X55.2.2]; exact (frv_r H _ (by omega))
                        refine cx_173 I52 F53 (k1) (by omega) (((v89 + v95) + (1))) (by omega) ((4)) (by omega) r101.1 r101.2 (fun h102 I103 F104 Z105 E106 N107 => ?_)
                        rw [X55.2.2] at E106
                        have Z108 := ZE_e2 Z54 Z105
                        have Y109 := FOI_c X55.1 (fun q hq => ⟨congrFun (Z105.1 113 rfl) q, N107 q hq⟩)
                        have Y110 := (congrFun (Z105.1 113 rfl) (Int.toNat (k1))).trans X55.2.1
                        show av_wp _ cd_174 176 [some (.inr (.inr (.inl (some (77))))), some (.inl k1), some (.inl k50)] [] h102 _
                        refine av_wp_sqF ck_174 2 (pc' := 2) (lv' := [some (.inr (.inr (.inl (some (77))))), some (.inl (k1 + (1))), some (.inl k50)]) (st' := []) (h' := h102) rfl ?_
                        exact I10 _ (by omega) ((k1 + (1))) (some (.inl k50)) h102 rfl (by omega) (by omega) I103 F104 Z108 (by rw [show Int.toNat (k1 + (1)) = Int.toNat k1 + 1 by omega]; exact FOI_s Y109 Y110 (by rw [E106, show Int.toNat k50 = s by omega]; unfold fre2; rw [if_neg (by omega), if_pos (by omega), ← y93, y99])) rfl
                  · have c72 : (0) ≤ v65 := c72
                    refine av_wp_sqF ck_174 3 (pc' := 121) (lv' := [some (.inr (.inr (.inl (some (77))))), some (.inl k1), some (.inl k50)]) (st' := [.inr (.inr (.inl (some (77)))), .inl k1, .inr (.inr (.inl (some (77))))]) (h' := h51) rfl ?_
                    refine wq_gr (p' := 124) (ck_174 _ _ rfl) rfl (congrArg Prod.fst (ly_k I52.1.1.1 77 rfl)) rfl (ly_g I52.1.1.1 77 33 99 rfl) ?_
                    refine av_wp_sqF ck_174 1 (pc' := 125) (lv' := [some (.inr (.inr (.inl (some (77))))), some (.inl k1), some (.inl k50)]) (st' := [.inl k1, .inr (.inr (.inl (some (99)))), .inl k1, .inr (.inr (.inl (some (77))))]) (h' := h51) rfl ?_
                    obtain ⟨v111, e112⟩ : ∃ v, hA h51 99 (Int.toNat (k1)) = v := ⟨_, rfl⟩
                    have g113 : -1 ≤ hA h51 99 (Int.toNat (k1)) ∧ hA h51 99 (Int.toNat (k1)) ≤ 1999 := im_w I52.1.1 99 (by decide) (by decide) _
                    rw [e112] at g113
                    have y114 : hA h 99 (Int.toNat (k1)) = v111 := (congrFun (Z54.1 99 rfl) _).symm.trans e112
                    have y115 := ((LR_z X Z54).1 (Int.toNat (k1)) (by omega)).1.2.2.1
                    rw [e112] at y115
                    have g116 := W (Int.toNat (k1)) (by omega)
                    rw [← y115] at g116
                    refine wq_al (p' := 126) (n := 12) (ck_174 _ _ rfl) rfl (ly_k I52.1.1.1 99 rfl) (by omega) (e112) ?_
                    refine av_wp_sqF ck_174 3 (pc' := 129) (lv' := [some (.inr (.inr (.inl (some (77))))), some (.inl k1), some (.inl k50)]) (st' := [.inl (3), .inl (v111 + (1)), .inl k1, .inr (.inr (.inl (some (77))))]) (h' := h51) rfl ?_
                    refine wq_cv (p' := 132) (av_qc (.invokevirtual 375) 173 3 0 8) 4 cd_173 [.inl (3), .inl (v111 + (1)), .inl k1] (77) 8 [some (.inr (.inr (.inl (some (77))))), some (.inl k1), some (.inl (v111 + (1))), some (.inl (3))] (ck_174 _ _ rfl) rfl rfl pp_173 rfl rfl rfl (congrArg Prod.fst (ly_k I52.1.1.1 77 rfl)) rfl rfl rfl rfl ?_
                    have r117 : R2P (E2 (hA h51) (Int.toNat (k1))) := by rw [X55.2.2]; exact (frv_r H _ (by omega))
                    refine cx_173 I52 F53 (k1) (by omega) ((v111 + (1))) (by omega) ((3)) (by omega) r117.1 r117.2 (fun h118 I119 F120 Z121 E122 N123 => ?_)
                    rw [X55.2.2] at E122
                    have Z124 := ZE_e2 Z54 Z121
                    have Y125 := FOI_c X55.1 (fun q hq => ⟨congrFun (Z121.1 113 rfl) q, N123 q hq⟩)
                    have Y126 := (congrFun (Z121.1 113 rfl) (Int.toNat (k1))).trans X55.2.1
                    show av_wp _ cd_174 132 [some (.inr (.inr (.inl (some (77))))), some (.inl k1), some (.inl k50)] [] h118 _
                    refine av_wp_sqF ck_174 3 (pc' := 2) (lv' := [some (.inr (.inr (.inl (some (77))))), some (.inl (k1 + (1))), some (.inl k50)]) (st' := []) (h' := h118) rfl ?_
                    exact I10 _ (by omega) ((k1 + (1))) (some (.inl k50)) h118 rfl (by omega) (by omega) I119 F120 Z124 (by rw [show Int.toNat (k1 + (1)) = Int.toNat k1 + 1 by omega]; exact FOI_s Y125 Y126 (by rw [E122, show Int.toNat k50 = s by omega]; unfold fre2; rw [if_pos (by omega), ← y115])) rfl
                · have c64 : k50 < n := c64
                  refine av_wp_sqF ck_174 5 (pc' := 84) (lv' := [some (.inr (.inr (.inl (some (77))))), some (.inl k1), some (.inl k50)]) (st' := [.inl k1, .inl k50, .inr (.inr (.inl (some (77)))), .inl k1, .inr (.inr (.inl (some (77))))]) (h' := h51) rfl ?_
                  refine wq_cv (p' := 87) (av_qc (.invokevirtual 372) 171 2 0 8) 4 cd_171 [.inl k1, .inl k50] (77) 8 [some (.inr (.inr (.inl (some (77))))), some (.inl k50), some (.inl k1), none] (ck_174 _ _ rfl) rfl rfl pp_171 rfl rfl rfl (congrArg Prod.fst (ly_k I52.1.1.1 77 rfl)) rfl rfl rfl rfl ?_
                  refine cx_171 I52 F53 en (LR_z X Z54) W R H (k50) (by omega) (k1) (by omega) (fun v127 p128 => ?_)
                  have p128b := bkv_r (u := u) (ro := ro) H (k := (Int.toNat (k50))) (by omega) (k1)
                  rw [← p128] at p128b
                  show av_wp _ cd_174 87 [some (.inr (.inr (.inl (some (77))))), some (.inl k1), some (.inl k50)] [.inl v127, .inl k1, .inr (.inr (.inl (some (77))))] h51 _
                  refine av_wp_sqF ck_174 1 (pc' := 88) (lv' := [some (.inr (.inr (.inl (some (77))))), some (.inl k1), some (.inl k50)]) (st' := [.inl (1), .inl v127, .inl k1, .inr (.inr (.inl (some (77))))]) (h' := h51) rfl ?_
                  refine wq_cv (p' := 91) (av_qc (.invokevirtual 375) 173 3 0 8) 4 cd_173 [.inl (1), .inl v127, .inl k1] (77) 8 [some (.inr (.inr (.inl (some (77))))), some (.inl k1), some (.inl v127), some (.inl (1))] (ck_174 _ _ rfl) rfl rfl pp_173 rfl rfl rfl (congrArg Prod.fst (ly_k I52.1.1.1 77 rfl)) rfl rfl rfl rfl ?_
                  have r129 : R2P (E2 (hA h51) (Int.toNat (k1))) := by rw [X55.2.2]; exact (frv_r H _ (by omega))
                  refine cx_173 I52 F53 (k1) (by omega) (v127) (by omega) ((1)) (by omega) r129.1 r129.2 (fun h130 I131 F132 Z133 E134 N135 => ?_)
                  rw [X55.2.2] at E134
                  have Z136 := ZE_e2 Z54 Z133
                  have Y137 := FOI_c X55.1 (fun q hq => ⟨congrFun (Z133.1 113 rfl) q, N135 q hq⟩)
                  have Y138 := (congrFun (Z133.1 113 rfl) (Int.toNat (k1))).trans X55.2.1
                  show av_wp _ cd_174 91 [some (.inr (.inr (.inl (some (77))))), some (.inl k1), some (.inl k50)] [] h130 _
                  refine av_wp_sqF ck_174 5 (pc' := 96) (lv' := [some (.inr (.inr (.inl (some (77))))), some (.inl k1), some (.inl k50)]) (st' := [.inl k1, .inl k50, .inr (.inr (.inl (some (77)))), .inl k1, .inr (.inr (.inl (some (77))))]) (h' := h130) rfl ?_
                  refine wq_cv (p' := 99) (av_qc (.invokevirtual 378) 172 2 0 8) 3 cd_172 [.inl k1, .inl k50] (77) 8 [some (.inr (.inr (.inl (some (77))))), some (.inl k50), some (.inl k1)] (ck_174 _ _ rfl) rfl rfl pp_172 rfl rfl rfl (congrArg Prod.fst (ly_k I131.1.1.1 77 rfl)) rfl rfl rfl rfl ?_
                  refine cx_172 I131 F132 en (LR_z X Z136) W R H (k50) (by omega) (k1) (by omega) (fun v139 p140 => ?_)
                  have p140b := nov_r (u := u) (ro := ro) H (k := (Int.toNat (k50))) (by omega) (k1)
                  rw [← p140] at p140b
                  show av_wp _ cd_174 99 [some (.inr (.inr (.inl (some (77))))), some (.inl k1), some (.inl k50)] [.inl v139, .inl k1, .inr (.inr (.inl (some (77))))] h130 _
                  refine av_wp_sqF ck_174 1 (pc' := 100) (lv' := [some (.inr (.inr (.inl (some (77))))), some (.inl k1), some (.inl k50)]) (st' := [.inl (2), .inl v139, .inl k1, .inr (.inr (.inl (some (77))))]) (h' := h130) rfl ?_
                  refine wq_cv (p' := 103) (av_qc (.invokevirtual 375) 173 3 0 8) 4 cd_173 [.inl (2), .inl v139, .inl k1] (77) 8 [some (.inr (.inr (.inl (some (77))))), some (.inl k1), some (.inl v139), some (.inl (2))] (ck_174 _ _ rfl) rfl rfl pp_173 rfl rfl rfl (congrArg Prod.fst (ly_k I131.1.1.1 77 rfl)) rfl rfl rfl rfl ?_
                  have r141 : R2P (E2 (hA h130) (Int.toNat (k1))) := by rw [E134]; exact (R2P_e (frv_r H _ (by omega)) (by omega) (by omega))
                  refine cx_173 I131 F132 (k1) (by omega) (v139) (by omega) ((2)) (by omega) r141.1 r141.2 (fun h142 I143 F144 Z145 E146 N147 => ?_)
                  rw [E134] at E146
                  have Z148 := ZE_e2 Z136 Z145
                  have Y149 := FOI_c Y137 (fun q hq => ⟨congrFun (Z145.1 113 rfl) q, N147 q hq⟩)
                  have Y150 := (congrFun (Z145.1 113 rfl) (Int.toNat (k1))).trans Y138
                  show av_wp _ cd_174 103 [some (.inr (.inr (.inl (some (77))))), some (.inl k1), some (.inl k50)] [] h142 _
                  refine av_wp_sqF ck_174 2 (pc' := 71) (lv' := [some (.inr (.inr (.inl (some (77))))), some (.inl k1), some (.inl (k50 + (1)))]) (st' := []) (h' := h142) rfl ?_
                  exact I58 _ (by omega) ((k50 + (1))) h142 (by omega) (by omega) (by omega) I143 F144 Z148 (by rw [show Int.toNat (k50 + (1)) = Int.toNat k50 + 1 by omega]; exact FOJ_s Y149 Y150 E146 (by omega) p128 p140 (by omega)) rfl
            exact L57 _ ((k1 + (1))) h42 (by omega) (by omega) (by omega) I43 F44 Z46 ⟨Y47, Y48, by rw [show Int.toNat (k1 + (1)) - ((Int.toNat k1) + 1) = 0 by omega]; exact E49⟩ rfl
          refine wq_k1 (p' := 35) (ck_174 _ _ rfl) rfl ⟨by omega, by omega⟩ (fun c151 => ?_) (fun c152 => ?_)
          · have c151 : v22 = (0) := c151
            refine av_wp_sqF ck_174 3 (pc' := 42) (lv' := [some (.inr (.inr (.inl (some (77))))), some (.inl k1), a2]) (st' := [.inr (.inr (.inl (some (77)))), .inl k1, .inr (.inr (.inl (some (77)))), .inl k1, .inr (.inr (.inl (some (113))))]) (h' := h3) rfl ?_
            refine wq_gr (p' := 45) (ck_174 _ _ rfl) rfl (congrArg Prod.fst (ly_k I4.1.1.1 77 rfl)) rfl (ly_g I4.1.1.1 77 26 95 rfl) ?_
            refine av_wp_sqF ck_174 1 (pc' := 46) (lv' := [some (.inr (.inr (.inl (some (77))))), some (.inl k1), a2]) (st' := [.inl (3), .inr (.inr (.inl (some (95)))), .inl k1, .inr (.inr (.inl (some (77)))), .inl k1, .inr (.inr (.inl (some (113))))]) (h' := h3) rfl ?_
            obtain ⟨v153, e154⟩ : ∃ v, hA h3 95 (Int.toNat ((3))) = v := ⟨_, rfl⟩
            have y156 : hA h 95 (Int.toNat ((3))) = v153 := (congrFun (Z6.1 95 rfl) _).symm.trans e154
            have y157 : ro 3 = v153 := ((LR_z X Z6).2 3 (by omega)).symm.trans e154
            have g158 := rl_3 R
            refine wq_al (p' := 47) (n := 13) (ck_174 _ _ rfl) rfl (ly_k I4.1.1.1 95 rfl) (by omega) (e154) ?_
            refine wq_cv (p' := 50) (av_qc (.invokevirtual 363) 166 2 0 8) 3 cd_166 [.inl v153, .inl k1] (77) 8 [some (.inr (.inr (.inl (some (77))))), some (.inl k1), some (.inl v153)] (ck_174 _ _ rfl) rfl rfl pp_166 rfl rfl rfl (congrArg Prod.fst (ly_k I4.1.1.1 77 rfl)) rfl rfl rfl rfl ?_
            refine cx_166 I4 F5 (k1) (by omega) (v153) (by omega) (fun v159 p160 => ?_)
            have y161 : v159 = hw a0 (Int.toNat (k1)) v153 := LR_w (LR_z X Z6) (by omega) (by omega) s12 p160
            have g162 := hw_r H (k := (Int.toNat (k1))) (by omega) v153
            rw [← y161] at g162
            rw [← y157] at y161
            show av_wp _ cd_174 50 [some (.inr (.inr (.inl (some (77))))), some (.inl k1), a2] [.inl v159, .inl k1, .inr (.inr (.inl (some (113))))] h3 _
            exact J31 (v159) (by omega) (by unfold o5; rw [if_pos (by omega)]; exact y161)
          · have c152 : v22 ≠ (0) := c152
            refine av_wp_sqF ck_174 2 (pc' := 50) (lv' := [some (.inr (.inr (.inl (some (77))))), some (.inl k1), a2]) (st' := [.inl (-1), .inl k1, .inr (.inr (.inl (some (113))))]) (h' := h3) rfl ?_
            exact J31 ((-1)) (by omega) (by unfold o5; rw [if_neg (by omega)])
        · have c21 : v18 = (0) := c21
          refine av_wp_sqF ck_174 3 (pc' := 2) (lv' := [some (.inr (.inr (.inl (some (77))))), some (.inl (k1 + (1))), a2]) (st' := []) (h' := h3) rfl ?_
          exact I10 _ (by omega) ((k1 + (1))) (a2) h3 la2 (by omega) (by omega) I4 F5 Z6 (by rw [show Int.toNat (k1 + (1)) = Int.toNat k1 + 1 by omega]; exact FOI_n X7 (by omega)) rfl
  exact L9 _ ((0)) (none) h rfl (by omega) (by omega) I F Z FOI_0 rfl

set_option maxRecDepth 100000 in
set_option maxHeartbeats 4000000 in
theorem cx_178 {g h : av_H} {n a m : Int} (I : IMF n a m h) (F : FM g h) (x : Int) (qx : -1 ≤ x ∧ x ≤ 11) (k : Int) (qk : 0 ≤ k ∧ k ≤ 11) (z : Int) (qz : -1 ≤ z ∧ z ≤ 9999) (r53 : hF h 77 50 = 1 → -1 ≤ hF h 77 53 ∧ hF h 77 53 ≤ 9999) {Q : Option av_V → av_H → Prop} (hq : ∀ h', IMF n a m h' → FM g h' → ZE [] [50, 51, 52, 53] h h' → OFP x k z h h' → Q none h') : av_wp none cd_178 0 [some (.inr (.inr (.inl (some (77))))), some (.inl x), some (.inl k), some (.inl z)] [] h Q := by
  have gn := im_n I.1.1
  rw [I.2.1] at gn
  have ga := im_a I.1.1
  rw [I.2.2.1] at ga
  have gm := im_cm I.1.1
  rw [I.2.2.2] at gm
  have Z := ZE_rf (L := []) (K := [50, 51, 52, 53]) h
  refine av_wp_sqF ck_178 1 (pc' := 1) (lv' := [some (.inr (.inr (.inl (some (77))))), some (.inl x), some (.inl k), some (.inl z)]) (st' := [.inr (.inr (.inl (some (77))))]) (h' := h) rfl ?_
  obtain ⟨v1, e2⟩ : ∃ v, hF h 77 50 = v := ⟨_, rfl⟩
  have g3 := im_has I.1.1
  rw [e2] at g3
  refine wq_gb (p' := 4) (ck_178 _ _ rfl) rfl (congrArg Prod.fst (ly_k I.1.1.1 77 rfl)) rfl (e2) ?_
  refine wq_k1 (p' := 7) (ck_178 _ _ rfl) rfl ⟨by omega, by omega⟩ (fun c4 => ?_) (fun c5 => ?_)
  · have c4 : v1 = (0) := c4
    refine av_wp_sqF ck_178 2 (pc' := 18) (lv' := [some (.inr (.inr (.inl (some (77))))), some (.inl x), some (.inl k), some (.inl z)]) (st' := [.inl (1), .inr (.inr (.inl (some (77))))]) (h' := h) rfl ?_
    refine xm_pb (p' := 21) rfl rfl I F (by omega) (fun h6 I7 F8 e9 => ?_)
    have Z10 := ZE_f Z e9 rfl
    refine av_wp_sqF ck_178 2 (pc' := 23) (lv' := [some (.inr (.inr (.inl (some (77))))), some (.inl x), some (.inl k), some (.inl z)]) (st' := [.inl x, .inr (.inr (.inl (some (77))))]) (h' := h6) rfl ?_
    refine xm_pf (p' := 26) rfl rfl I7 F8 (by omega) rfl (fun h11 I12 F13 e14 => ?_)
    have Z15 := ZE_f Z10 e14 rfl
    refine av_wp_sqF ck_178 2 (pc' := 28) (lv' := [some (.inr (.inr (.inl (some (77))))), some (.inl x), some (.inl k), some (.inl z)]) (st' := [.inl k, .inr (.inr (.inl (some (77))))]) (h' := h11) rfl ?_
    refine xm_pf (p' := 31) rfl rfl I12 F13 (by omega) rfl (fun h16 I17 F18 e19 => ?_)
    have Z20 := ZE_f Z15 e19 rfl
    refine av_wp_sqF ck_178 2 (pc' := 33) (lv' := [some (.inr (.inr (.inl (some (77))))), some (.inl x), some (.inl k), some (.inl z)]) (st' := [.inl z, .inr (.inr (.inl (some (77))))]) (h' := h16) rfl ?_
    refine xm_pf (p' := 36) rfl rfl I17 F18 (by omega) rfl (fun h21 I22 F23 e24 => ?_)
    have Z25 := ZE_f Z20 e24 rfl
    refine av_wp_ret (v := none) (ck_178 _ _ rfl) rfl rfl ?_
    exact hq h21 I22 F23 Z25 (Or.inr ⟨by omega, (hF_eo e24 (by decide)).trans ((hF_eo e19 (by decide)).trans ((hF_eo e14 (by decide)).trans (hF_es e9))), (hF_eo e24 (by decide)).trans ((hF_eo e19 (by decide)).trans (hF_es e14)), (hF_eo e24 (by decide)).trans (hF_es e19), hF_es e24⟩)
  · have c5 : v1 ≠ (0) := c5
    have r5 := r53 (by omega)
    refine av_wp_sqF ck_178 2 (pc' := 9) (lv' := [some (.inr (.inr (.inl (some (77))))), some (.inl x), some (.inl k), some (.inl z)]) (st' := [.inr (.inr (.inl (some (77)))), .inl z]) (h' := h) rfl ?_
    obtain ⟨v26, e27⟩ : ∃ v, hF h 77 53 = v := ⟨_, rfl⟩
    rw [e27] at r5
    refine wq_gi (p' := 12) (ck_178 _ _ rfl) rfl (congrArg Prod.fst (ly_k I.1.1.1 77 rfl)) rfl (e27) ?_
    refine wq_k2 (p' := 15) (ck_178 _ _ rfl) rfl ⟨by omega, by omega⟩ ⟨by omega, by omega⟩ (fun c28 => ?_) (fun c29 => ?_)
    · have c28 : z < v26 := c28
      refine av_wp_sqF ck_178 2 (pc' := 18) (lv' := [some (.inr (.inr (.inl (some (77))))), some (.inl x), some (.inl k), some (.inl z)]) (st' := [.inl (1), .inr (.inr (.inl (some (77))))]) (h' := h) rfl ?_
      refine xm_pb (p' := 21) rfl rfl I F (by omega) (fun h30 I31 F32 e33 => ?_)
      have Z34 := ZE_f Z e33 rfl
      refine av_wp_sqF ck_178 2 (pc' := 23) (lv' := [some (.inr (.inr (.inl (some (77))))), some (.inl x), some (.inl k), some (.inl z)]) (st' := [.inl x, .inr (.inr (.inl (some (77))))]) (h' := h30) rfl ?_
      refine xm_pf (p' := 26) rfl rfl I31 F32 (by omega) rfl (fun h35 I36 F37 e38 => ?_)
      have Z39 := ZE_f Z34 e38 rfl
      refine av_wp_sqF ck_178 2 (pc' := 28) (lv' := [some (.inr (.inr (.inl (some (77))))), some (.inl x), some (.inl k), some (.inl z)]) (st' := [.inl k, .inr (.inr (.inl (some (77))))]) (h' := h35) rfl ?_
      refine xm_pf (p' := 31) rfl rfl I36 F37 (by omega) rfl (fun h40 I41 F42 e43 => ?_)
      have Z44 := ZE_f Z39 e43 rfl
      refine av_wp_sqF ck_178 2 (pc' := 33) (lv' := [some (.inr (.inr (.inl (some (77))))), some (.inl x), some (.inl k), some (.inl z)]) (st' := [.inl z, .inr (.inr (.inl (some (77))))]) (h' := h40) rfl ?_
      refine xm_pf (p' := 36) rfl rfl I41 F42 (by omega) rfl (fun h45 I46 F47 e48 => ?_)
      have Z49 := ZE_f Z44 e48 rfl
      refine av_wp_ret (v := none) (ck_178 _ _ rfl) rfl rfl ?_
      exact hq h45 I46 F47 Z49 (Or.inr ⟨by omega, (hF_eo e48 (by decide)).trans ((hF_eo e43 (by decide)).trans ((hF_eo e38 (by decide)).trans (hF_es e33))), (hF_eo e48 (by decide)).trans ((hF_eo e43 (by decide)).trans (hF_es e38)), (hF_eo e48 (by decide)).trans (hF_es e43), hF_es e48⟩)
    · have c29 : v26 ≤ z := c29
      refine av_wp_ret (v := none) (ck_178 _ _ rfl) rfl rfl ?_
      exact hq h I F Z (Or.inl ⟨by omega, by omega, fun _ => rfl⟩)

set_option maxRecDepth 100000 in
set_option maxHeartbeats 4000000 in
theorem cx_180 {g h : av_H} {n a m : Int} (I : IMF n a m h) (F : FM g h) {u ro : Nat → Int} {a0 : Nat → Nat → Int} {s : Nat} (en : n = (s : Int)) (X : LR u ro a0 s (hA h)) (W : UW u s) (R : RLW ro) (H : HBd s a0) (U2 : ∀ j, u j ≤ 2000 ∨ j % 21 = 20) (U1 : ∀ j, -1 ≤ u j) (R9 : ∀ j, -2 ≤ ro j ∧ ro j ≤ 999) (FO : FOI u ro a0 s s (hA h)) {Q : Option av_V → av_H → Prop} (hq : ∀ h', IMF n a m h' → FM g h' → ZE [] [50, 51, 52, 53] h h' → BRR (brg u ro a0 s) h' → Q none h') : av_wp none cd_180 0 [some (.inr (.inr (.inl (some (77))))), none, none, none] [] h Q := by
  have gn := im_n I.1.1
  rw [I.2.1] at gn
  have ga := im_a I.1.1
  rw [I.2.2.1] at ga
  have gm := im_cm I.1.1
  rw [I.2.2.2] at gm
  have s12 : s ≤ 12 := by omega
  have Z := ZE_rf (L := []) (K := [50, 51, 52, 53]) h
  refine av_wp_sqF ck_180 2 (pc' := 2) (lv' := [some (.inr (.inr (.inl (some (77))))), none, none, none]) (st' := [.inl (0), .inr (.inr (.inl (some (77))))]) (h' := h) rfl ?_
  refine xm_pb (p' := 5) rfl rfl I F (by omega) (fun h1 I2 F3 e4 => ?_)
  have Z5 := ZE_f Z e4 rfl
  refine av_wp_sqF ck_180 2 (pc' := 7) (lv' := [some (.inr (.inr (.inl (some (77))))), some (.inl (0)), none, none]) (st' := []) (h' := h1) rfl ?_
  have L15 : ∀ (m14 : Nat) (k6 : Int) (a7 : Option av_V) (a8 : Option av_V) (h9 : av_H), av_lg a7 = false → av_lg a8 = false → k6 ≤ (s : Int) → (0 ≤ k6 ∧ k6 ≤ 12) → IMF n a m h9 → FM g h9 → ZE [] [50, 51, 52, 53] h h9 → BRR (yv u ro a0 s (Int.toNat k6)) h9 → (12 - k6).toNat = m14 → av_wp none cd_180 7 [some (.inr (.inr (.inl (some (77))))), some (.inl k6), a7, a8] [] h9 Q := by
    intro m14
    induction m14 using Nat.strongRecOn with
    | _ m14 I16 =>
      intro k6 a7 a8 h9 g18 g19 g20 g21 I10 F11 Z12 X13 e17
      have la7 := g18
      have la8 := g19
      refine av_wp_sqF ck_180 2 (pc' := 9) (lv' := [some (.inr (.inr (.inl (some (77))))), some (.inl k6), a7, a8]) (st' := [.inr (.inr (.inl (some (77)))), .inl k6]) (h' := h9) rfl ?_
      refine wq_gi (p' := 12) (ck_180 _ _ rfl) rfl (congrArg Prod.fst (ly_k I10.1.1.1 77 rfl)) rfl (I10.2.1) ?_
      refine wq_k2 (p' := 15) (ck_180 _ _ rfl) rfl ⟨by omega, by omega⟩ ⟨by omega, by omega⟩ (fun c22 => ?_) (fun c23 => ?_)
      · have c22 : n ≤ k6 := c22
        refine av_wp_sqF ck_180 1 (pc' := 107) (lv' := [some (.inr (.inr (.inl (some (77))))), some (.inl k6), a7, a8]) (st' := [.inr (.inr (.inl (some (77))))]) (h' := h9) rfl ?_
        refine wq_gr (p' := 110) (ck_180 _ _ rfl) rfl (congrArg Prod.fst (ly_k I10.1.1.1 77 rfl)) rfl (ly_g I10.1.1.1 77 26 95 rfl) ?_
        refine av_wp_sqF ck_180 1 (pc' := 112) (lv' := [some (.inr (.inr (.inl (some (77))))), some (.inl k6), a7, a8]) (st' := [.inl (8), .inr (.inr (.inl (some (95))))]) (h' := h9) rfl ?_
        obtain ⟨v24, e25⟩ : ∃ v, hA h9 95 (Int.toNat ((8))) = v := ⟨_, rfl⟩
        have y27 : hA h 95 (Int.toNat ((8))) = v24 := (congrFun (Z12.1 95 rfl) _).symm.trans e25
        have y28 : ro 8 = v24 := ((LR_z0 X Z12).2 8 (by omega)).symm.trans e25
        have g29 := rl_8 R
        refine wq_al (p' := 113) (n := 13) (ck_180 _ _ rfl) rfl (ly_k I10.1.1.1 95 rfl) (by omega) (e25) ?_
        refine wq_k1 (p' := 116) (ck_180 _ _ rfl) rfl ⟨by omega, by omega⟩ (fun c30 => ?_) (fun c31 => ?_)
        · have c30 : (0) ≤ v24 := c30
          refine av_wp_sqF ck_180 2 (pc' := 119) (lv' := [some (.inr (.inr (.inl (some (77))))), some (.inl (0)), a7, a8]) (st' := []) (h' := h9) rfl ?_
          have L40 : ∀ (m39 : Nat) (k32 : Int) (a33 : Option av_V) (h34 : av_H), av_lg a33 = false → k32 ≤ (s : Int) → (0 ≤ k32 ∧ k32 ≤ 12) → IMF n a m h34 → FM g h34 → ZE [] [50, 51, 52, 53] h h34 → BRR (sv u ro a0 s (Int.toNat k32)) h34 → (12 - k32).toNat = m39 → av_wp none cd_180 119 [some (.inr (.inr (.inl (some (77))))), some (.inl k32), a33, a8] [] h34 Q := by
            intro m39
            induction m39 using Nat.strongRecOn with
            | _ m39 I41 =>
              intro k32 a33 h34 g43 g44 g45 I35 F36 Z37 X38 e42
              have la33 := g43
              refine av_wp_sqF ck_180 2 (pc' := 121) (lv' := [some (.inr (.inr (.inl (some (77))))), some (.inl k32), a33, a8]) (st' := [.inr (.inr (.inl (some (77)))), .inl k32]) (h' := h34) rfl ?_
              refine wq_gi (p' := 124) (ck_180 _ _ rfl) rfl (congrArg Prod.fst (ly_k I35.1.1.1 77 rfl)) rfl (I35.2.1) ?_
              refine wq_k2 (p' := 127) (ck_180 _ _ rfl) rfl ⟨by omega, by omega⟩ ⟨by omega, by omega⟩ (fun c46 => ?_) (fun c47 => ?_)
              · have c46 : n ≤ k32 := c46
                refine av_wp_ret (v := none) (ck_180 _ _ rfl) rfl rfl ?_
                have z48 : Int.toNat k32 = s := by omega
                rw [z48] at X38
                exact hq h34 I35 F36 Z37 (by unfold brg; rw [if_pos (by omega)]; exact X38)
              · have c47 : k32 < n := c47
                refine av_wp_sqF ck_180 2 (pc' := 129) (lv' := [some (.inr (.inr (.inl (some (77))))), some (.inl k32), a33, a8]) (st' := [.inl k32, .inr (.inr (.inl (some (77))))]) (h' := h34) rfl ?_
                refine wq_cv (p' := 132) (av_qc (.invokevirtual 369) 168 1 0 8) 2 cd_168 [.inl k32] (77) 8 [some (.inr (.inr (.inl (some (77))))), some (.inl k32)] (ck_180 _ _ rfl) rfl rfl pp_168 rfl rfl rfl (congrArg Prod.fst (ly_k I35.1.1.1 77 rfl)) rfl rfl rfl rfl ?_
                refine cx_168 I35 F36 en (LR_z0 X Z37) W R H (k32) (by omega) (fun v49 p50 => ?_)
                have p50b := of_b u ro (Int.toNat (k32))
                rw [← (X.1 (Int.toNat (k32)) (by omega)).2.2.2.1, ← p50] at p50b
                show av_wp _ cd_180 132 [some (.inr (.inr (.inl (some (77))))), some (.inl k32), a33, a8] [.inl v49] h34 _
                refine wq_k1 (p' := 135) (ck_180 _ _ rfl) rfl ⟨by omega, by omega⟩ (fun c51 => ?_) (fun c52 => ?_)
                · have c51 : v49 = (0) := c51
                  refine av_wp_sqF ck_180 2 (pc' := 119) (lv' := [some (.inr (.inr (.inl (some (77))))), some (.inl (k32 + (1))), a33, a8]) (st' := []) (h' := h34) rfl ?_
                  exact I41 _ (by omega) ((k32 + (1))) (a33) h34 la33 (by omega) (by omega) I35 F36 Z37 (by rw [show Int.toNat (k32 + (1)) = Int.toNat k32 + 1 by omega]; exact BRR_sn X38 (fun m => by unfold slc; intro zz; split at zz <;> omega)) rfl
                · have c52 : v49 ≠ (0) := c52
                  refine av_wp_sqF ck_180 1 (pc' := 136) (lv' := [some (.inr (.inr (.inl (some (77))))), some (.inl k32), a33, a8]) (st' := [.inr (.inr (.inl (some (77))))]) (h' := h34) rfl ?_
                  refine wq_gr (p' := 139) (ck_180 _ _ rfl) rfl (congrArg Prod.fst (ly_k I35.1.1.1 77 rfl)) rfl (ly_g I35.1.1.1 77 45 111 rfl) ?_
                  refine av_wp_sqF ck_180 1 (pc' := 140) (lv' := [some (.inr (.inr (.inl (some (77))))), some (.inl k32), a33, a8]) (st' := [.inl k32, .inr (.inr (.inl (some (111))))]) (h' := h34) rfl ?_
                  obtain ⟨v53, e54⟩ : ∃ v, hA h34 111 (Int.toNat (k32)) = v := ⟨_, rfl⟩
                  have y56 : hA h 111 (Int.toNat (k32)) = v53 := (congrFun (Z37.1 111 rfl) _).symm.trans e54
                  have y57 : v53 = hw a0 (Int.toNat (k32)) 2 := LR_w (LR_z0 X Z37) (by omega) (by omega) s12 (Or.inr (Or.inr ⟨by decide, by decide, e54.symm⟩))
                  have g58 := hw_r H (k := (Int.toNat (k32))) (by omega) 2
                  rw [← y57] at g58
                  refine wq_al (p' := 141) (n := 12) (ck_180 _ _ rfl) rfl (ly_k I35.1.1.1 111 rfl) (by omega) (e54) ?_
                  refine wq_k1 (p' := 144) (ck_180 _ _ rfl) rfl ⟨by omega, by omega⟩ (fun c59 => ?_) (fun c60 => ?_)
                  · have c59 : (0) ≤ v53 := c59
                    refine av_wp_sqF ck_180 1 (pc' := 148) (lv' := [some (.inr (.inr (.inl (some (77))))), some (.inl k32), a33, a8]) (st' := [.inr (.inr (.inl (some (77))))]) (h' := h34) rfl ?_
                    refine wq_gr (p' := 151) (ck_180 _ _ rfl) rfl (congrArg Prod.fst (ly_k I35.1.1.1 77 rfl)) rfl (ly_g I35.1.1.1 77 45 111 rfl) ?_
                    refine av_wp_sqF ck_180 1 (pc' := 152) (lv' := [some (.inr (.inr (.inl (some (77))))), some (.inl k32), a33, a8]) (st' := [.inl k32, .inr (.inr (.inl (some (111))))]) (h' := h34) rfl ?_
                    obtain ⟨v61, e62⟩ : ∃ v, hA h34 111 (Int.toNat (k32)) = v := ⟨_, rfl⟩
                    have y64 : hA h 111 (Int.toNat (k32)) = v61 := (congrFun (Z37.1 111 rfl) _).symm.trans e62
                    have y65 : v61 = hw a0 (Int.toNat (k32)) 2 := LR_w (LR_z0 X Z37) (by omega) (by omega) s12 (Or.inr (Or.inr ⟨by decide, by decide, e62.symm⟩))
                    have g66 := hw_r H (k := (Int.toNat (k32))) (by omega) 2
                    rw [← y65] at g66
                    refine wq_al (p' := 153) (n := 12) (ck_180 _ _ rfl) rfl (ly_k I35.1.1.1 111 rfl) (by omega) (e62) ?_
                    refine av_wp_sqF ck_180 1 (pc' := 154) (lv' := [some (.inr (.inr (.inl (some (77))))), some (.inl k32), a33, a8]) (st' := [.inr (.inr (.inl (some (77)))), .inl v61]) (h' := h34) rfl ?_
                    refine wq_gr (p' := 157) (ck_180 _ _ rfl) rfl (congrArg Prod.fst (ly_k I35.1.1.1 77 rfl)) rfl (ly_g I35.1.1.1 77 26 95 rfl) ?_
                    refine av_wp_sqF ck_180 1 (pc' := 159) (lv' := [some (.inr (.inr (.inl (some (77))))), some (.inl k32), a33, a8]) (st' := [.inl (8), .inr (.inr (.inl (some (95)))), .inl v61]) (h' := h34) rfl ?_
                    obtain ⟨v67, e68⟩ : ∃ v, hA h34 95 (Int.toNat ((8))) = v := ⟨_, rfl⟩
                    have y70 : hA h 95 (Int.toNat ((8))) = v67 := (congrFun (Z37.1 95 rfl) _).symm.trans e68
                    have y71 : ro 8 = v67 := ((LR_z0 X Z37).2 8 (by omega)).symm.trans e68
                    have g72 := rl_8 R
                    refine wq_al (p' := 160) (n := 13) (ck_180 _ _ rfl) rfl (ly_k I35.1.1.1 95 rfl) (by omega) (e68) ?_
                    refine av_wp_sqF ck_180 5 (pc' := 165) (lv' := [some (.inr (.inr (.inl (some (77))))), some (.inl k32), some (.inl (v61 + v67)), a8]) (st' := [.inl (v61 + v67), .inl k32, .inr (.inr (.inl (some (77))))]) (h' := h34) rfl ?_
                    refine wq_cv (p' := 168) (av_qc (.invokevirtual 403) 175 2 0 8) 3 cd_175 [.inl (v61 + v67), .inl k32] (77) 8 [some (.inr (.inr (.inl (some (77))))), some (.inl k32), some (.inl (v61 + v67))] (ck_180 _ _ rfl) rfl rfl pp_175 rfl rfl rfl (congrArg Prod.fst (ly_k I35.1.1.1 77 rfl)) rfl rfl rfl rfl ?_
                    have t75 : hA h34 113 (Int.toNat (k32)) = o5 ro a0 (Int.toNat (k32)) := (congrFun (Z37.1 113 rfl) _).trans (FO (Int.toNat (k32)) (by omega) (by omega)).1
                    have t76 : hA h34 114 (Int.toNat (k32)) = (eav u ro a0 s (Int.toNat (k32)) s).1 := (congrFun (Z37.1 114 rfl) _).trans ((congrArg Prod.fst (FO (Int.toNat (k32)) (by omega) (by omega)).2).trans (end_eq W R H (fun k hk => (X.1 k hk).2.2.2.1) (by omega) (by omega)).1)
                    have g77 := o5_r (ro := ro) H (q := (Int.toNat (k32))) (by omega)
                    have g77b := (eav_r (u := u) (ro := ro) H U2 U1 R9 s12 (q := (Int.toNat (k32))) (by omega) s (Nat.le_refl s)).1
                    refine cx_175 I35 F36 en (LR_z0 X Z37) W R H (k32) (by omega) ((v61 + v67)) (by omega) (by rw [t75]; omega) (by rw [t76]; omega) (fun v73 p74 => ?_)
                    rw [t75, t76, opn_R (by omega) (by omega)] at p74
                    have g77c := opn_r (o5 ro a0 (Int.toNat (k32))) (eav u ro a0 s (Int.toNat (k32)) s).1 ((v61 + v67))
                    rw [← p74] at g77c
                    show av_wp _ cd_180 168 [some (.inr (.inr (.inl (some (77))))), some (.inl k32), some (.inl (v61 + v67)), a8] [.inl v73] h34 _
                    refine wq_k1 (p' := 171) (ck_180 _ _ rfl) rfl ⟨by omega, by omega⟩ (fun c78 => ?_) (fun c79 => ?_)
                    · have c78 : v73 = (0) := c78
                      refine av_wp_sqF ck_180 2 (pc' := 119) (lv' := [some (.inr (.inr (.inl (some (77))))), some (.inl (k32 + (1))), some (.inl (v61 + v67)), a8]) (st' := []) (h' := h34) rfl ?_
                      exact I41 _ (by omega) ((k32 + (1))) (some (.inl (v61 + v67))) h34 rfl (by omega) (by omega) I35 F36 Z37 (by rw [show Int.toNat (k32 + (1)) = Int.toNat k32 + 1 by omega]; exact BRR_sn X38 (fun m => by unfold slc; rw [← y65, y71]; intro zz; split at zz <;> omega)) rfl
                    · have c79 : v73 ≠ (0) := c79
                      refine av_wp_sqF ck_180 3 (pc' := 174) (lv' := [some (.inr (.inr (.inl (some (77))))), some (.inl k32), some (.inl (v61 + v67)), a8]) (st' := [.inl (v61 + v67), .inl k32, .inr (.inr (.inl (some (77))))]) (h' := h34) rfl ?_
                      refine wq_cv (p' := 177) (av_qc (.invokevirtual 409) 179 2 0 8) 5 cd_179 [.inl (v61 + v67), .inl k32] (77) 8 [some (.inr (.inr (.inl (some (77))))), some (.inl k32), some (.inl (v61 + v67)), none, none] (ck_180 _ _ rfl) rfl rfl pp_179 rfl rfl rfl (congrArg Prod.fst (ly_k I35.1.1.1 77 rfl)) rfl rfl rfl rfl ?_
                      refine cx_179 I35 F36 en (LR_z0 X Z37) W R H (k32) (by omega) ((v61 + v67)) (by omega) (fun v80 p81 => ?_)
                      have t82 : (v80 = 1 ∧ ¬ (v61 + v67) < awv u a0 (Int.toNat (k32)) s) ∨ (v80 = 0 ∧ (v61 + v67) < awv u a0 (Int.toNat (k32)) s) := by
                        rcases p81 with ⟨e1, i, i1, i2, i3⟩ | ⟨e1, z1⟩
                        · exact Or.inl ⟨e1, fun y1 => (an_i W H (by omega)).mpr y1 i i1 i2 i3⟩
                        · exact Or.inr ⟨e1, (an_i W H (by omega)).mp z1⟩
                      clear p81
                      show av_wp _ cd_180 177 [some (.inr (.inr (.inl (some (77))))), some (.inl k32), some (.inl (v61 + v67)), a8] [.inl v80] h34 _
                      refine wq_k1 (p' := 180) (ck_180 _ _ rfl) rfl ⟨by omega, by omega⟩ (fun c83 => ?_) (fun c84 => ?_)
                      · have c83 : v80 ≠ (0) := c83
                        refine av_wp_sqF ck_180 2 (pc' := 119) (lv' := [some (.inr (.inr (.inl (some (77))))), some (.inl (k32 + (1))), some (.inl (v61 + v67)), a8]) (st' := []) (h' := h34) rfl ?_
                        exact I41 _ (by omega) ((k32 + (1))) (some (.inl (v61 + v67))) h34 rfl (by omega) (by omega) I35 F36 Z37 (by rw [show Int.toNat (k32 + (1)) = Int.toNat k32 + 1 by omega]; exact BRR_sn X38 (fun m => by unfold slc; rw [← y65, y71]; intro zz; split at zz <;> omega)) rfl
                      · have c84 : v80 = (0) := c84
                        refine av_wp_sqF ck_180 4 (pc' := 184) (lv' := [some (.inr (.inr (.inl (some (77))))), some (.inl k32), some (.inl (v61 + v67)), a8]) (st' := [.inl (v61 + v67), .inl k32, .inl (-1), .inr (.inr (.inl (some (77))))]) (h' := h34) rfl ?_
                        refine wq_cv (p' := 187) (av_qc (.invokevirtual 406) 178 3 0 8) 4 cd_178 [.inl (v61 + v67), .inl k32, .inl (-1)] (77) 8 [some (.inr (.inr (.inl (some (77))))), some (.inl (-1)), some (.inl k32), some (.inl (v61 + v67))] (ck_180 _ _ rfl) rfl rfl pp_178 rfl rfl rfl (congrArg Prod.fst (ly_k I35.1.1.1 77 rfl)) rfl rfl rfl rfl ?_
                        have B91 := BRR_53 X38 (sv_r H R9 (by have := rl_8 R; omega) s12 _ (by omega))
                        refine cx_178 I35 F36 ((-1)) (by omega) (k32) (by omega) ((v61 + v67)) (by omega) B91 (fun h85 I86 F87 Z88 P89 => ?_)
                        have Z90 := ZE_f4 Z37 Z88
                        show av_wp _ cd_180 187 [some (.inr (.inr (.inl (some (77))))), some (.inl k32), some (.inl (v61 + v67)), a8] [] h85 _
                        refine av_wp_sqF ck_180 2 (pc' := 119) (lv' := [some (.inr (.inr (.inl (some (77))))), some (.inl (k32 + (1))), some (.inl (v61 + v67)), a8]) (st' := []) (h' := h85) rfl ?_
                        exact I41 _ (by omega) ((k32 + (1))) (some (.inl (v61 + v67))) h85 rfl (by omega) (by omega) I86 F87 Z90 (by rw [show Int.toNat (k32 + (1)) = Int.toNat k32 + 1 by omega]; exact BRR_ss X38 P89 (by omega) y65.symm y71 rfl (by omega) (fun m hm => by unfold slc; rw [← y65, y71]; exact if_pos (by omega)) (fun m hm => by unfold slc; rw [← y65, y71]; intro zz; split at zz <;> omega)) rfl
                  · have c60 : v53 < (0) := c60
                    refine av_wp_sqF ck_180 3 (pc' := 119) (lv' := [some (.inr (.inr (.inl (some (77))))), some (.inl (k32 + (1))), a33, a8]) (st' := []) (h' := h34) rfl ?_
                    exact I41 _ (by omega) ((k32 + (1))) (a33) h34 la33 (by omega) (by omega) I35 F36 Z37 (by rw [show Int.toNat (k32 + (1)) = Int.toNat k32 + 1 by omega]; exact BRR_sn X38 (fun m => by unfold slc; rw [← y57]; intro zz; split at zz <;> omega)) rfl
          exact L40 _ ((0)) (a7) h9 la7 (by omega) (by omega) I10 F11 Z12 (by rw [show Int.toNat k6 = s by omega] at X13; exact X13) rfl
        · have c31 : v24 < (0) := c31
          refine av_wp_ret (v := none) (ck_180 _ _ rfl) rfl rfl ?_
          have z92 : Int.toNat k6 = s := by omega
          rw [z92] at X13
          exact hq h9 I10 F11 Z12 (by unfold brg; rw [if_neg (by omega)]; exact X13)
      · have c23 : k6 < n := c23
        refine av_wp_sqF ck_180 1 (pc' := 16) (lv' := [some (.inr (.inr (.inl (some (77))))), some (.inl k6), a7, a8]) (st' := [.inr (.inr (.inl (some (77))))]) (h' := h9) rfl ?_
        refine wq_gr (p' := 19) (ck_180 _ _ rfl) rfl (congrArg Prod.fst (ly_k I10.1.1.1 77 rfl)) rfl (ly_g I10.1.1.1 77 34 100 rfl) ?_
        refine av_wp_sqF ck_180 1 (pc' := 20) (lv' := [some (.inr (.inr (.inl (some (77))))), some (.inl k6), a7, a8]) (st' := [.inl k6, .inr (.inr (.inl (some (100))))]) (h' := h9) rfl ?_
        obtain ⟨v93, e94⟩ : ∃ v, hA h9 100 (Int.toNat (k6)) = v := ⟨_, rfl⟩
        have g95 : -1 ≤ hA h9 100 (Int.toNat (k6)) ∧ hA h9 100 (Int.toNat (k6)) ≤ 11 := im_w I10.1.1 100 (by decide) (by decide) _
        rw [e94] at g95
        have w96 := im_wr I10.1 (Int.toNat (k6)) (by omega)
        rw [e94] at w96
        have y97 : hA h 100 (Int.toNat (k6)) = v93 := (congrFun (Z12.1 100 rfl) _).symm.trans e94
        have y98 := ((LR_z0 X Z12).1 (Int.toNat (k6)) (by omega)).1.2.2.2.1
        rw [e94] at y98
        refine wq_al (p' := 21) (n := 12) (ck_180 _ _ rfl) rfl (ly_k I10.1.1.1 100 rfl) (by omega) (e94) ?_
        refine av_wp_sqF ck_180 3 (pc' := 24) (lv' := [some (.inr (.inr (.inl (some (77))))), some (.inl k6), some (.inl v93), a8]) (st' := [.inl k6, .inr (.inr (.inl (some (77))))]) (h' := h9) rfl ?_
        refine wq_cv (p' := 27) (av_qc (.invokevirtual 393) 170 1 0 8) 2 cd_170 [.inl k6] (77) 8 [some (.inr (.inr (.inl (some (77))))), some (.inl k6)] (ck_180 _ _ rfl) rfl rfl pp_170 rfl rfl rfl (congrArg Prod.fst (ly_k I10.1.1.1 77 rfl)) rfl rfl rfl rfl ?_
        refine cx_170 I10 F11 en (LR_z0 X Z12) W R H (k6) (by omega) (fun v100 p101 => ?_)
        have p101b := ys_b u ro (Int.toNat (k6))
        rw [← (X.1 (Int.toNat (k6)) (by omega)).2.2.2.2, ← p101] at p101b
        show av_wp _ cd_180 27 [some (.inr (.inr (.inl (some (77))))), some (.inl k6), some (.inl v93), a8] [.inl v100] h9 _
        refine wq_k1 (p' := 30) (ck_180 _ _ rfl) rfl ⟨by omega, by omega⟩ (fun c102 => ?_) (fun c103 => ?_)
        · have c102 : v100 = (0) := c102
          refine av_wp_sqF ck_180 2 (pc' := 7) (lv' := [some (.inr (.inr (.inl (some (77))))), some (.inl (k6 + (1))), some (.inl v93), a8]) (st' := []) (h' := h9) rfl ?_
          exact I16 _ (by omega) ((k6 + (1))) (some (.inl v93)) (a8) h9 rfl la8 (by omega) (by omega) I10 F11 Z12 (by rw [show Int.toNat (k6 + (1)) = Int.toNat k6 + 1 by omega]; exact BRR_yn X13 (fun m => by unfold yc; rw [← y98]; intro zz; split at zz <;> omega)) rfl
        · have c103 : v100 ≠ (0) := c103
          have s104 := ys_said (ro := ro) W (k := (Int.toNat (k6))) (by omega) (by rw [← (X.1 (Int.toNat (k6)) (by omega)).2.2.2.2, ← p101]; omega)
          rw [← y98] at s104
          refine av_wp_sqF ck_180 2 (pc' := 32) (lv' := [some (.inr (.inr (.inl (some (77))))), some (.inl k6), some (.inl v93), a8]) (st' := [.inl v93, .inr (.inr (.inl (some (77))))]) (h' := h9) rfl ?_
          refine wq_cv (p' := 35) (av_qc (.invokevirtual 369) 168 1 0 8) 2 cd_168 [.inl v93] (77) 8 [some (.inr (.inr (.inl (some (77))))), some (.inl v93)] (ck_180 _ _ rfl) rfl rfl pp_168 rfl rfl rfl (congrArg Prod.fst (ly_k I10.1.1.1 77 rfl)) rfl rfl rfl rfl ?_
          refine cx_168 I10 F11 en (LR_z0 X Z12) W R H (v93) (by omega) (fun v105 p106 => ?_)
          have p106b := of_b u ro (Int.toNat (v93))
          rw [← (X.1 (Int.toNat (v93)) (by omega)).2.2.2.1, ← p106] at p106b
          show av_wp _ cd_180 35 [some (.inr (.inr (.inl (some (77))))), some (.inl k6), some (.inl v93), a8] [.inl v105] h9 _
          refine wq_k1 (p' := 38) (ck_180 _ _ rfl) rfl ⟨by omega, by omega⟩ (fun c107 => ?_) (fun c108 => ?_)
          · have c107 : v105 ≠ (0) := c107
            refine av_wp_sqF ck_180 2 (pc' := 43) (lv' := [some (.inr (.inr (.inl (some (77))))), some (.inl k6), some (.inl v93), a8]) (st' := [.inl k6, .inr (.inr (.inl (some (77))))]) (h' := h9) rfl ?_
            refine wq_cv (p' := 46) (av_qc (.invokevirtual 396) 176 1 0 8) 2 cd_176 [.inl k6] (77) 8 [some (.inr (.inr (.inl (some (77))))), some (.inl k6)] (ck_180 _ _ rfl) rfl rfl pp_176 rfl rfl rfl (congrArg Prod.fst (ly_k I10.1.1.1 77 rfl)) rfl rfl rfl rfl ?_
            refine cx_176 I10 F11 en (LR_z0 X Z12) W R H (k6) (by omega) (fun v109 p110 => ?_)
            have p110b := hw_r H (k := (Int.toNat (k6))) (by omega) (yw u ro (Int.toNat (k6)))
            rw [← p110] at p110b
            show av_wp _ cd_180 46 [some (.inr (.inr (.inl (some (77))))), some (.inl k6), some (.inl v93), a8] [.inl v109] h9 _
            refine av_wp_sqF ck_180 2 (pc' := 48) (lv' := [some (.inr (.inr (.inl (some (77))))), some (.inl k6), some (.inl v93), some (.inl v109)]) (st' := [.inl v109]) (h' := h9) rfl ?_
            refine wq_k1 (p' := 51) (ck_180 _ _ rfl) rfl ⟨by omega, by omega⟩ (fun c111 => ?_) (fun c112 => ?_)
            · have c111 : v109 < (0) := c111
              refine av_wp_sqF ck_180 2 (pc' := 7) (lv' := [some (.inr (.inr (.inl (some (77))))), some (.inl (k6 + (1))), some (.inl v93), some (.inl v109)]) (st' := []) (h' := h9) rfl ?_
              exact I16 _ (by omega) ((k6 + (1))) (some (.inl v93)) (some (.inl v109)) h9 rfl rfl (by omega) (by omega) I10 F11 Z12 (by rw [show Int.toNat (k6 + (1)) = Int.toNat k6 + 1 by omega]; exact BRR_yn X13 (fun m => by unfold yc; rw [← y98, ← p110]; have on := opn_1 (o5 ro a0 (Int.toNat v93)) (eav u ro a0 s (Int.toNat v93) s).1 v109; intro zz; split at zz <;> omega)) rfl
            · have c112 : (0) ≤ v109 := c112
              refine av_wp_sqF ck_180 1 (pc' := 52) (lv' := [some (.inr (.inr (.inl (some (77))))), some (.inl k6), some (.inl v93), some (.inl v109)]) (st' := [.inr (.inr (.inl (some (77))))]) (h' := h9) rfl ?_
              refine wq_gr (p' := 55) (ck_180 _ _ rfl) rfl (congrArg Prod.fst (ly_k I10.1.1.1 77 rfl)) rfl (ly_g I10.1.1.1 77 44 110 rfl) ?_
              refine av_wp_sqF ck_180 1 (pc' := 56) (lv' := [some (.inr (.inr (.inl (some (77))))), some (.inl k6), some (.inl v93), some (.inl v109)]) (st' := [.inl v93, .inr (.inr (.inl (some (110))))]) (h' := h9) rfl ?_
              obtain ⟨v113, e114⟩ : ∃ v, hA h9 110 (Int.toNat (v93)) = v := ⟨_, rfl⟩
              have y116 : hA h 110 (Int.toNat (v93)) = v113 := (congrFun (Z12.1 110 rfl) _).symm.trans e114
              have y117 : v113 = hw a0 (Int.toNat (v93)) 1 := LR_w (LR_z0 X Z12) (by omega) (by omega) s12 (Or.inr (Or.inl ⟨rfl, e114.symm⟩))
              have g118 := hw_r H (k := (Int.toNat (v93))) (by omega) 1
              rw [← y117] at g118
              refine wq_al (p' := 57) (n := 12) (ck_180 _ _ rfl) rfl (ly_k I10.1.1.1 110 rfl) (by omega) (e114) ?_
              refine wq_k1 (p' := 60) (ck_180 _ _ rfl) rfl ⟨by omega, by omega⟩ (fun c119 => ?_) (fun c120 => ?_)
              · have c119 : v113 < (0) := c119
                refine av_wp_sqF ck_180 2 (pc' := 7) (lv' := [some (.inr (.inr (.inl (some (77))))), some (.inl (k6 + (1))), some (.inl v93), some (.inl v109)]) (st' := []) (h' := h9) rfl ?_
                exact I16 _ (by omega) ((k6 + (1))) (some (.inl v93)) (some (.inl v109)) h9 rfl rfl (by omega) (by omega) I10 F11 Z12 (by rw [show Int.toNat (k6 + (1)) = Int.toNat k6 + 1 by omega]; exact BRR_yn X13 (fun m => by unfold yc; rw [← y98, ← p110]; have on := opn_1 (o5 ro a0 (Int.toNat v93)) (eav u ro a0 s (Int.toNat v93) s).1 v109; intro zz; split at zz <;> omega)) rfl
              · have c120 : (0) ≤ v113 := c120
                refine av_wp_sqF ck_180 1 (pc' := 61) (lv' := [some (.inr (.inr (.inl (some (77))))), some (.inl k6), some (.inl v93), some (.inl v109)]) (st' := [.inr (.inr (.inl (some (77))))]) (h' := h9) rfl ?_
                refine wq_gr (p' := 64) (ck_180 _ _ rfl) rfl (congrArg Prod.fst (ly_k I10.1.1.1 77 rfl)) rfl (ly_g I10.1.1.1 77 44 110 rfl) ?_
                refine av_wp_sqF ck_180 1 (pc' := 65) (lv' := [some (.inr (.inr (.inl (some (77))))), some (.inl k6), some (.inl v93), some (.inl v109)]) (st' := [.inl v93, .inr (.inr (.inl (some (110))))]) (h' := h9) rfl ?_
                obtain ⟨v121, e122⟩ : ∃ v, hA h9 110 (Int.toNat (v93)) = v := ⟨_, rfl⟩
                have y124 : hA h 110 (Int.toNat (v93)) = v121 := (congrFun (Z12.1 110 rfl) _).symm.trans e122
                have y125 : v121 = hw a0 (Int.toNat (v93)) 1 := LR_w (LR_z0 X Z12) (by omega) (by omega) s12 (Or.inr (Or.inl ⟨rfl, e122.symm⟩))
                have g126 := hw_r H (k := (Int.toNat (v93))) (by omega) 1
                rw [← y125] at g126
                refine wq_al (p' := 66) (n := 12) (ck_180 _ _ rfl) rfl (ly_k I10.1.1.1 110 rfl) (by omega) (e122) ?_
                refine av_wp_sqF ck_180 1 (pc' := 67) (lv' := [some (.inr (.inr (.inl (some (77))))), some (.inl k6), some (.inl v93), some (.inl v109)]) (st' := [.inr (.inr (.inl (some (77)))), .inl v121]) (h' := h9) rfl ?_
                refine wq_gr (p' := 70) (ck_180 _ _ rfl) rfl (congrArg Prod.fst (ly_k I10.1.1.1 77 rfl)) rfl (ly_g I10.1.1.1 77 43 109 rfl) ?_
                refine av_wp_sqF ck_180 1 (pc' := 71) (lv' := [some (.inr (.inr (.inl (some (77))))), some (.inl k6), some (.inl v93), some (.inl v109)]) (st' := [.inl k6, .inr (.inr (.inl (some (109)))), .inl v121]) (h' := h9) rfl ?_
                obtain ⟨v127, e128⟩ : ∃ v, hA h9 109 (Int.toNat (k6)) = v := ⟨_, rfl⟩
                have y130 : hA h 109 (Int.toNat (k6)) = v127 := (congrFun (Z12.1 109 rfl) _).symm.trans e128
                have y131 : v127 = hw a0 (Int.toNat (k6)) 0 := LR_w (LR_z0 X Z12) (by omega) (by omega) s12 (Or.inl ⟨rfl, e128.symm⟩)
                have g132 := hw_r H (k := (Int.toNat (k6))) (by omega) 0
                rw [← y131] at g132
                refine wq_al (p' := 72) (n := 12) (ck_180 _ _ rfl) rfl (ly_k I10.1.1.1 109 rfl) (by omega) (e128) ?_
                refine wq_k2 (p' := 75) (ck_180 _ _ rfl) rfl ⟨by omega, by omega⟩ ⟨by omega, by omega⟩ (fun c133 => ?_) (fun c134 => ?_)
                · have c133 : v127 < v121 := c133
                  refine av_wp_sqF ck_180 2 (pc' := 7) (lv' := [some (.inr (.inr (.inl (some (77))))), some (.inl (k6 + (1))), some (.inl v93), some (.inl v109)]) (st' := []) (h' := h9) rfl ?_
                  exact I16 _ (by omega) ((k6 + (1))) (some (.inl v93)) (some (.inl v109)) h9 rfl rfl (by omega) (by omega) I10 F11 Z12 (by rw [show Int.toNat (k6 + (1)) = Int.toNat k6 + 1 by omega]; exact BRR_yn X13 (fun m => by unfold yc; rw [← y98, ← p110]; have on := opn_1 (o5 ro a0 (Int.toNat v93)) (eav u ro a0 s (Int.toNat v93) s).1 v109; intro zz; split at zz <;> omega)) rfl
                · have c134 : v121 ≤ v127 := c134
                  refine av_wp_sqF ck_180 3 (pc' := 78) (lv' := [some (.inr (.inr (.inl (some (77))))), some (.inl k6), some (.inl v93), some (.inl v109)]) (st' := [.inl v109, .inl k6, .inr (.inr (.inl (some (77))))]) (h' := h9) rfl ?_
                  refine wq_cv (p' := 81) (av_qc (.invokevirtual 399) 177 2 0 8) 5 cd_177 [.inl v109, .inl k6] (77) 8 [some (.inr (.inr (.inl (some (77))))), some (.inl k6), some (.inl v109), none, none] (ck_180 _ _ rfl) rfl rfl pp_177 rfl rfl rfl (congrArg Prod.fst (ly_k I10.1.1.1 77 rfl)) rfl rfl rfl rfl ?_
                  refine cx_177 I10 F11 en (LR_z0 X Z12) W R H (k6) (by omega) (v109) (by omega) (fun v135 p136 => ?_)
                  have t137 : (v135 = 1 ∧ ¬ v109 ≤ tbv u ro a0 (Int.toNat (k6)) s) ∨ (v135 = 0 ∧ v109 ≤ tbv u ro a0 (Int.toNat (k6)) s) := by
                    rcases p136 with ⟨e1, i, i1, i2, i3⟩ | ⟨e1, z1⟩
                    · exact Or.inl ⟨e1, fun y1 => (tk_i W H (by omega)).mpr y1 i i1 i2 i3⟩
                    · exact Or.inr ⟨e1, (tk_i W H (by omega)).mp z1⟩
                  clear p136
                  show av_wp _ cd_180 81 [some (.inr (.inr (.inl (some (77))))), some (.inl k6), some (.inl v93), some (.inl v109)] [.inl v135] h9 _
                  refine wq_k1 (p' := 84) (ck_180 _ _ rfl) rfl ⟨by omega, by omega⟩ (fun c138 => ?_) (fun c139 => ?_)
                  · have c138 : v135 ≠ (0) := c138
                    refine av_wp_sqF ck_180 2 (pc' := 7) (lv' := [some (.inr (.inr (.inl (some (77))))), some (.inl (k6 + (1))), some (.inl v93), some (.inl v109)]) (st' := []) (h' := h9) rfl ?_
                    exact I16 _ (by omega) ((k6 + (1))) (some (.inl v93)) (some (.inl v109)) h9 rfl rfl (by omega) (by omega) I10 F11 Z12 (by rw [show Int.toNat (k6 + (1)) = Int.toNat k6 + 1 by omega]; exact BRR_yn X13 (fun m => by unfold yc; rw [← y98, ← p110]; have on := opn_1 (o5 ro a0 (Int.toNat v93)) (eav u ro a0 s (Int.toNat v93) s).1 v109; intro zz; split at zz <;> omega)) rfl
                  · have c139 : v135 = (0) := c139
                    refine av_wp_sqF ck_180 3 (pc' := 87) (lv' := [some (.inr (.inr (.inl (some (77))))), some (.inl k6), some (.inl v93), some (.inl v109)]) (st' := [.inl v109, .inl v93, .inr (.inr (.inl (some (77))))]) (h' := h9) rfl ?_
                    refine wq_cv (p' := 90) (av_qc (.invokevirtual 403) 175 2 0 8) 3 cd_175 [.inl v109, .inl v93] (77) 8 [some (.inr (.inr (.inl (some (77))))), some (.inl v93), some (.inl v109)] (ck_180 _ _ rfl) rfl rfl pp_175 rfl rfl rfl (congrArg Prod.fst (ly_k I10.1.1.1 77 rfl)) rfl rfl rfl rfl ?_
                    have t142 : hA h9 113 (Int.toNat (v93)) = o5 ro a0 (Int.toNat (v93)) := (congrFun (Z12.1 113 rfl) _).trans (FO (Int.toNat (v93)) (by omega) (by omega)).1
                    have t143 : hA h9 114 (Int.toNat (v93)) = (eav u ro a0 s (Int.toNat (v93)) s).1 := (congrFun (Z12.1 114 rfl) _).trans ((congrArg Prod.fst (FO (Int.toNat (v93)) (by omega) (by omega)).2).trans (end_eq W R H (fun k hk => (X.1 k hk).2.2.2.1) (by omega) (by omega)).1)
                    have g144 := o5_r (ro := ro) H (q := (Int.toNat (v93))) (by omega)
                    have g144b := (eav_r (u := u) (ro := ro) H U2 U1 R9 s12 (q := (Int.toNat (v93))) (by omega) s (Nat.le_refl s)).1
                    refine cx_175 I10 F11 en (LR_z0 X Z12) W R H (v93) (by omega) (v109) (by omega) (by rw [t142]; omega) (by rw [t143]; omega) (fun v140 p141 => ?_)
                    rw [t142, t143, opn_R (by omega) (by omega)] at p141
                    have g144c := opn_r (o5 ro a0 (Int.toNat (v93))) (eav u ro a0 s (Int.toNat (v93)) s).1 (v109)
                    rw [← p141] at g144c
                    show av_wp _ cd_180 90 [some (.inr (.inr (.inl (some (77))))), some (.inl k6), some (.inl v93), some (.inl v109)] [.inl v140] h9 _
                    refine wq_k1 (p' := 93) (ck_180 _ _ rfl) rfl ⟨by omega, by omega⟩ (fun c145 => ?_) (fun c146 => ?_)
                    · have c145 : v140 = (0) := c145
                      refine av_wp_sqF ck_180 2 (pc' := 7) (lv' := [some (.inr (.inr (.inl (some (77))))), some (.inl (k6 + (1))), some (.inl v93), some (.inl v109)]) (st' := []) (h' := h9) rfl ?_
                      exact I16 _ (by omega) ((k6 + (1))) (some (.inl v93)) (some (.inl v109)) h9 rfl rfl (by omega) (by omega) I10 F11 Z12 (by rw [show Int.toNat (k6 + (1)) = Int.toNat k6 + 1 by omega]; exact BRR_yn X13 (fun m => by unfold yc; rw [← y98, ← p110]; have on := opn_1 (o5 ro a0 (Int.toNat v93)) (eav u ro a0 s (Int.toNat v93) s).1 v109; intro zz; split at zz <;> omega)) rfl
                    · have c146 : v140 ≠ (0) := c146
                      refine av_wp_sqF ck_180 4 (pc' := 97) (lv' := [some (.inr (.inr (.inl (some (77))))), some (.inl k6), some (.inl v93), some (.inl v109)]) (st' := [.inl v109, .inl v93, .inl k6, .inr (.inr (.inl (some (77))))]) (h' := h9) rfl ?_
                      refine wq_cv (p' := 100) (av_qc (.invokevirtual 406) 178 3 0 8) 4 cd_178 [.inl v109, .inl v93, .inl k6] (77) 8 [some (.inr (.inr (.inl (some (77))))), some (.inl k6), some (.inl v93), some (.inl v109)] (ck_180 _ _ rfl) rfl rfl pp_178 rfl rfl rfl (congrArg Prod.fst (ly_k I10.1.1.1 77 rfl)) rfl rfl rfl rfl ?_
                      have B153 := BRR_53 X13 (yv_r H s12 _ (by omega))
                      refine cx_178 I10 F11 (k6) (by omega) (v93) (by omega) (v109) (by omega) B153 (fun h147 I148 F149 Z150 P151 => ?_)
                      have Z152 := ZE_f4 Z12 Z150
                      show av_wp _ cd_180 100 [some (.inr (.inr (.inl (some (77))))), some (.inl k6), some (.inl v93), some (.inl v109)] [] h147 _
                      refine av_wp_sqF ck_180 2 (pc' := 7) (lv' := [some (.inr (.inr (.inl (some (77))))), some (.inl (k6 + (1))), some (.inl v93), some (.inl v109)]) (st' := []) (h' := h147) rfl ?_
                      exact I16 _ (by omega) ((k6 + (1))) (some (.inl v93)) (some (.inl v109)) h147 rfl rfl (by omega) (by omega) I148 F149 Z152 (by rw [show Int.toNat (k6 + (1)) = Int.toNat k6 + 1 by omega]; exact BRR_ys X13 P151 (by omega) y98.symm p110.symm (by omega) (fun m hm => by unfold yc; rw [← y98, ← p110]; exact if_pos (by omega)) (fun m hm => by unfold yc; rw [← y98, ← p110]; intro zz; split at zz <;> omega)) rfl
          · have c108 : v105 = (0) := c108
            refine av_wp_sqF ck_180 3 (pc' := 7) (lv' := [some (.inr (.inr (.inl (some (77))))), some (.inl (k6 + (1))), some (.inl v93), a8]) (st' := []) (h' := h9) rfl ?_
            exact I16 _ (by omega) ((k6 + (1))) (some (.inl v93)) (a8) h9 rfl la8 (by omega) (by omega) I10 F11 Z12 (by rw [show Int.toNat (k6 + (1)) = Int.toNat k6 + 1 by omega]; exact BRR_yn X13 (fun m => by unfold yc; rw [← y98]; intro zz; split at zz <;> omega)) rfl
  exact L15 _ ((0)) (none) (none) h1 rfl rfl (by omega) (by omega) I2 F3 Z5 (Or.inl ⟨rfl, hF_es e4⟩) rfl
end
section
/-! THE REFERENCE LOOKS AT A COMBO -/
/-- the case as it was brought: all but the hours -/
def LST (u ro : Nat → Int) (a : Nat → Nat → Int) (s : Nat) (A : Nat → Nat → Int) : Prop := (∀ k, k < s → (A 96 k = u (21 * k + 0) ∧ A 97 k = u (21 * k + 4) ∧ A 99 k = u (21 * k + 5) ∧ A 100 k = u (21 * k + 3) ∧ A 101 k = u (21 * k + 1) ∧ A 102 k = u (21 * k + 2) ∧ A 103 k = a 4 k) ∧ (∀ j, j < 5 → A 104 (5 * k + j) = u (21 * k + 10 + j)) ∧ a 2 k = ofv u ro k ∧ a 3 k = ysv u ro k) ∧ ∀ j, j < 13 → A 95 j = ro j
section
variable {u ro : Nat → Int} {a : Nat → Nat → Int} {s : Nat} {A A' : Nat → Nat → Int}
theorem LR_of (x : LST u ro a s A) (e : ∀ q, 95 ≤ q → q ≤ 104 → A' q = A q) (h : ∀ k, k < s → A' 109 k = a 0 (12 * 0 + k) ∧ A' 110 k = a 0 (12 * 1 + k) ∧ A' 111 k = a 0 (12 * 2 + k)) : LR u ro a s A' := by
  unfold LR
  rw [e 95 (by omega) (by omega), e 96 (by omega) (by omega), e 97 (by omega) (by omega), e 99 (by omega) (by omega), e 100 (by omega) (by omega), e 101 (by omega) (by omega), e 102 (by omega) (by omega), e 103 (by omega) (by omega), e 104 (by omega) (by omega)]
  exact ⟨fun k hk => ⟨(x.1 k hk).1, (x.1 k hk).2.1, h k hk, (x.1 k hk).2.2⟩, x.2⟩
end
/-- the reference's rows of a case as the class has them, also of one that is changed -/
def LH2 (u : Nat → Int) (s : Nat) (lo hi ls : Nat → Int) : Prop := ∀ k, k < s → (∀ j, j < 3 → lo (3 * k + j) = u (21 * k + 7 + j) ∧ ((u (21 * k + 15 + j) = 0 ∧ hi (3 * k + j) = lo (3 * k + j)) ∨ ((1 ≤ u (21 * k + 15 + j) ∧ u (21 * k + 15 + j) ≤ 16) ∧ hi (3 * k + j) = lo (3 * k + j) + u (21 * k + 15 + j) - 1))) ∧ ((u (21 * k + 18) = 0 ∧ ls k = 0 ∧ u (21 * k + 19) = 0) ∨ (u (21 * k + 18) = 2 ∧ ls k = 1 ∧ u (21 * k + 19) = 0) ∨ (u (21 * k + 18) = 0 ∧ ls k = 2 ∧ u (21 * k + 19) = 1))
theorem LH2_of {u : Nat → Int} {s : Nat} {lo hi ls : Nat → Int} (H : LH u s lo hi ls) : LH2 u s lo hi ls := fun k hk => by
  have h := H k hk
  refine ⟨h.1, ?_⟩
  rcases h.2.1 with e | e
  · exact Or.inl ⟨e.1, e.2, h.2.2⟩
  · exact Or.inr (Or.inl ⟨e.1, e.2, h.2.2⟩)
section
variable {u : Nat → Int} {s : Nat} {lo hi ls : Nat → Int}
theorem LH2_v (H : LH2 u s lo hi ls) {t : Nat} (ht : t < 4 * s) : one1 (cmv lo hi ls) t = dvu u t := by
  have hk := H (t / 4) (by omega)
  unfold one1 dvu cmv
  by_cases c : t % 4 < 3
  · have h1 := hk.1 (t % 4) c
    rw [if_pos c]
    unfold mx1
    rcases h1.2 with e | e
    · rw [e.2, e.1, if_pos (by omega), if_pos (by omega)]
    · by_cases d : u (21 * (t / 4) + 15 + t % 4) < 2
      · rw [if_pos (by omega), if_neg (by omega)]
        omega
      · rw [if_neg (by omega), if_neg (by omega)]
        omega
  · have e3 : t % 4 = 3 := by omega
    rw [if_neg c, e3, show 21 * (t / 4) + 15 + 3 = 21 * (t / 4) + 18 by omega]
    unfold mx1
    rcases hk.2 with e | e | e
    · rw [e.1, e.2.1]
      decide
    · rw [e.1, e.2.1]
      decide
    · rw [e.1, e.2.1]
      decide
theorem LH2_d (H : LH2 u s lo hi ls) {x : Int} {t : Nat} (ht : t < 4 * s) : dgt (one1 (cmv lo hi ls)) x t = dgt (dvu u) x t := by
  unfold dgt
  rw [prd_c t (fun q hq => LH2_v H (by omega)), LH2_v H ht]
theorem LH2_h (H : LH2 u s lo hi ls) {x : Int} {k i : Nat} (hk : k < s) (hi3 : i < 3) : hrq lo ls (dgt (one1 (cmv lo hi ls)) x) k i = hrv u x k i := by
  have h1 := H k hk
  have e : ∀ n, n ≤ 3 → hsl lo (dgt (one1 (cmv lo hi ls)) x) k n = hsm u (fun j => dgt (dvu u) x (4 * k + j)) k n := by
    intro n
    induction n with
    | zero => intro _; rfl
    | succ n ih =>
      intro hn
      show hsl lo (dgt (one1 (cmv lo hi ls)) x) k n + lo (3 * k + n) + dgt (one1 (cmv lo hi ls)) x (4 * k + n) = hsm u (fun j => dgt (dvu u) x (4 * k + j)) k n + u (21 * k + 7 + n) + dgt (dvu u) x (4 * k + n)
      rw [ih (by omega), (h1.1 n (by omega)).1, LH2_d H (by omega)]
  have l2 : ls k = 2 ↔ u (21 * k + 19) = 1 := by
    rcases h1.2 with z | z | z <;> omega
  unfold hrq hrv
  rw [LH2_d H (show 4 * k + 3 < 4 * s by omega), e (i + 1) (by omega)]
  by_cases c : (u (21 * k + 19) = 1 ∨ dgt (dvu u) x (4 * k + 3) = 1) ∧ 1 ≤ i
  · rw [if_pos c, if_pos ⟨c.1.elim (fun y => Or.inl (l2.mpr y)) Or.inr, c.2⟩]
  · rw [if_neg c, if_neg (fun z => c ⟨z.1.elim (fun y => Or.inl (l2.mp y)) Or.inr, z.2⟩)]
end
theorem HX_q {u : Nat → Int} {s : Nat} {x : Int} {a : Nat → Nat → Int} {lo hi ls : Nat → Int} {A : Nat → Nat → Int} (X : HX u s x a) (H : LH2 u s lo hi ls) (Q : HQ lo ls (dgt (one1 (cmv lo hi ls)) x) s A) : ∀ k, k < s → A 109 k = a 0 (12 * 0 + k) ∧ A 110 k = a 0 (12 * 1 + k) ∧ A 111 k = a 0 (12 * 2 + k) := fun k hk => by
  have q := Q k hk
  rw [q.1, q.2.1, q.2.2, X k hk 0 (by omega), X k hk 1 (by omega), X k hk 2 (by omega)]
  exact ⟨LH2_h H hk (by omega), LH2_h H hk (by omega), LH2_h H hk (by omega)⟩
theorem ZE_l1 {g h : av_H} (Z : ZE [109, 110, 111, 112] [] g h) : ZE [109, 110, 111, 112, 113, 114, 115] [50, 51, 52, 53] g h := ZE_mo Z (fun q e => by
  have e1 := elc.mp e
  have e2 := elc.mp e1.2
  have e3 := elc.mp e2.2
  have e4 := elc.mp e3.2
  exact elc.mpr ⟨e1.1, elc.mpr ⟨e2.1, elc.mpr ⟨e3.1, elc.mpr ⟨e4.1, rfl⟩⟩⟩⟩) (fun _ _ => rfl)
theorem ZE_l2 {g h : av_H} (Z : ZE [113, 114, 115] [50, 51, 52, 53] g h) : ZE [109, 110, 111, 112, 113, 114, 115] [50, 51, 52, 53] g h := ZE_mo Z (fun q e => by
  exact (elc.mp (elc.mp (elc.mp (elc.mp e).2).2).2).2) (fun _ z => z)
theorem ZE_l3 {g h : av_H} (Z : ZE [] [50, 51, 52, 53] g h) : ZE [109, 110, 111, 112, 113, 114, 115] [50, 51, 52, 53] g h := ZE_mo Z (fun _ _ => rfl) (fun _ z => z)
theorem FOI_z {u ro : Nat → Int} {a : Nat → Nat → Int} {s o : Nat} {g h : av_H} {K : List Nat} (x : FOI u ro a s o (hA g)) (Z : ZE [] K g h) : FOI u ro a s o (hA h) := fun q hq h2 => by
  unfold E2
  rw [Z.1 113 rfl, Z.1 114 rfl, Z.1 115 rfl]
  exact x q hq h2
end
section
/-! THE REFERENCE LOOKS, exactly -/
set_option maxRecDepth 100000 in
set_option maxHeartbeats 4000000 in
theorem cx_181 {g h : av_H} {n a m : Int} (I : IMF n a m h) (F : FM g h) {u ro : Nat → Int} {a0 : Nat → Nat → Int} {s : Nat} (en : n = (s : Int)) (LSx : LST u ro a0 s (hA h)) (LHx : LH2 u s (hA h 105) (hA h 106) (hA h 98)) (al : AQL (cmv (hA h 105) (hA h 106) (hA h 98)) (Int.toNat (4 * n)) h) (W : UW u s) (R : RLW ro) (H : HBd s a0) (U2 : ∀ j, u j ≤ 2000 ∨ j % 21 = 20) (U1 : ∀ j, -1 ≤ u j) (R9 : ∀ j, -2 ≤ ro j ∧ ro j ≤ 999) (x : Int) (qx : 0 ≤ x ∧ x ≤ 1023) (HXx : HX u s x a0) {Q : Option av_V → av_H → Prop} (hq : ∀ h', IMF n a m h' → FM g h' → ZE [109, 110, 111, 112, 113, 114, 115] [50, 51, 52, 53] h h' → FOI u ro a0 s s (hA h') → BRR (brg u ro a0 s) h' → LR u ro a0 s (hA h') → Q none h') : av_wp none cd_181 0 [some (.inr (.inr (.inl (some (77))))), some (.inl x)] [] h Q := by
  have gn := im_n I.1.1
  rw [I.2.1] at gn
  have ga := im_a I.1.1
  rw [I.2.2.1] at ga
  have gm := im_cm I.1.1
  rw [I.2.2.2] at gm
  refine av_wp_sqF ck_181 2 (pc' := 2) (lv' := [some (.inr (.inr (.inl (some (77))))), some (.inl x)]) (st' := [.inl x, .inr (.inr (.inl (some (77))))]) (h' := h) rfl ?_
  refine wq_cv (p' := 5) (av_qc (.invokevirtual 412) 165 1 0 8) 5 cd_165 [.inl x] (77) 8 [some (.inr (.inr (.inl (some (77))))), some (.inl x), none, none, none] (ck_181 _ _ rfl) rfl rfl pp_165 rfl rfl rfl (congrArg Prod.fst (ly_k I.1.1.1 77 rfl)) rfl rfl rfl rfl ?_
  refine cx_165 (v := (cmv (hA h 105) (hA h 106) (hA h 98))) I F (x) (by omega) al.2 (I.2.2.1.symm.trans al.1) (fun h1 I2 F3 Z4 H5 => ?_)
  rw [show Int.toNat n = s by omega] at H5
  have X := LR_of LSx (A' := hA h1) (fun q q1 q2 => Z4.1 q (by rcases (show q = 95 ∨ q = 96 ∨ q = 97 ∨ q = 98 ∨ q = 99 ∨ q = 100 ∨ q = 101 ∨ q = 102 ∨ q = 103 ∨ q = 104 by omega) with z | z | z | z | z | z | z | z | z | z <;> subst z <;> rfl)) (HX_q HXx LHx H5)
  have Z1 := ZE_l1 Z4
  show av_wp _ cd_181 5 [some (.inr (.inr (.inl (some (77))))), some (.inl x)] [] h1 _
  refine av_wp_sqF ck_181 1 (pc' := 6) (lv' := [some (.inr (.inr (.inl (some (77))))), some (.inl x)]) (st' := [.inr (.inr (.inl (some (77))))]) (h' := h1) rfl ?_
  refine wq_cv (p' := 9) (av_qc (.invokevirtual 415) 174 0 0 8) 3 cd_174 [] (77) 8 [some (.inr (.inr (.inl (some (77))))), none, none] (ck_181 _ _ rfl) rfl rfl pp_174 rfl rfl rfl (congrArg Prod.fst (ly_k I2.1.1.1 77 rfl)) rfl rfl rfl rfl ?_
  refine cx_174 I2 F3 en X W R H (fun h6 I7 F8 Z9 Y10 => ?_)
  have X2 := LR_z X Z9
  have Z2 := ZE_tr Z1 (ZE_l2 Z9)
  show av_wp _ cd_181 9 [some (.inr (.inr (.inl (some (77))))), some (.inl x)] [] h6 _
  refine av_wp_sqF ck_181 1 (pc' := 10) (lv' := [some (.inr (.inr (.inl (some (77))))), some (.inl x)]) (st' := [.inr (.inr (.inl (some (77))))]) (h' := h6) rfl ?_
  refine wq_cv (p' := 13) (av_qc (.invokevirtual 418) 180 0 0 8) 4 cd_180 [] (77) 8 [some (.inr (.inr (.inl (some (77))))), none, none, none] (ck_181 _ _ rfl) rfl rfl pp_180 rfl rfl rfl (congrArg Prod.fst (ly_k I7.1.1.1 77 rfl)) rfl rfl rfl rfl ?_
  refine cx_180 I7 F8 en X2 W R H U2 U1 R9 Y10 (fun h11 I12 F13 Z14 B15 => ?_)
  have Z3 := ZE_tr Z2 (ZE_l3 Z14)
  show av_wp _ cd_181 13 [some (.inr (.inr (.inl (some (77))))), some (.inl x)] [] h11 _
  refine av_wp_ret (v := none) (ck_181 _ _ rfl) rfl rfl ?_
  exact hq h11 I12 F13 Z3 (FOI_z Y10 Z14) B15 (LR_z0 X2 Z14)
end
section
/-! BENCHES THAT AGREE DECIDE ALIKE -/
def AGR (s : Nat) (a a' : Nat → Nat → Int) : Prop := ∀ k, k < s → (∀ i, i < 3 → a 0 (12 * i + k) = a' 0 (12 * i + k)) ∧ a 2 k = a' 2 k ∧ a 3 k = a' 3 k ∧ a 4 k = a' 4 k
section
variable {u ro : Nat → Int} {a a' : Nat → Nat → Int} {s : Nat}
theorem hw_g (g : AGR s a a') {k : Nat} (hk : k < s) (w : Int) : hw a k w = hw a' k w := by
  unfold hw hof
  split
  · have := (g k hk).1 w.toNat (by omega)
    rw [show (w * 12 + (k : Int)).toNat = 12 * w.toNat + k by omega]
    exact this
  · rfl
theorem o5_g (g : AGR s a a') {k : Nat} (hk : k < s) : o5 ro a k = o5 ro a' k := by
  unfold o5
  rw [(g k hk).2.1, (g k hk).2.2.2, hw_g g hk]
theorem e0_g (g : AGR s a a') {k : Nat} (hk : k < s) : e0 u ro a k = e0 u ro a' k := by
  unfold e0
  rw [(g k hk).2.1, hw_g g hk]
theorem hB_g (g : AGR s a a') {k : Nat} (hk : k < s) : hB u ro a k = hB u ro a' k := by
  unfold hB
  rw [hw_g g hk]
theorem tbv_g (g : AGR s a a') (q : Nat) : ∀ k, k ≤ s → tbv u ro a q k = tbv u ro a' q k := by
  intro k
  induction k with
  | zero => intro _; rfl
  | succ k ih =>
    intro hk
    show (if hB u ro a k ≠ -1 ∧ u (21 * k + 3) = (q : Int) then mn2 (tbv u ro a q k) (hB u ro a k) else tbv u ro a q k) = (if hB u ro a' k ≠ -1 ∧ u (21 * k + 3) = (q : Int) then mn2 (tbv u ro a' q k) (hB u ro a' k) else tbv u ro a' q k)
    rw [hB_g g (by omega), ih (by omega)]
theorem ebv_g (g : AGR s a a') {q : Nat} (hq : q < s) : ∀ k, k ≤ s → ebv u ro a q k = ebv u ro a' q k := by
  intro k
  induction k with
  | zero => intro _; exact e0_g g hq
  | succ k ih =>
    intro hk
    show (if hB u ro a k ≠ -1 ∧ u (21 * k + 3) = (q : Int) ∧ fre u ro q ≤ hB u ro a k then ea (ebv u ro a q k) (a 2 q) (hB u ro a k) 1 (k : Int) else ebv u ro a q k) = (if hB u ro a' k ≠ -1 ∧ u (21 * k + 3) = (q : Int) ∧ fre u ro q ≤ hB u ro a' k then ea (ebv u ro a' q k) (a' 2 q) (hB u ro a' k) 1 (k : Int) else ebv u ro a' q k)
    rw [hB_g g (by omega), ih (by omega), (g q hq).2.1]
theorem awv_g (g : AGR s a a') (q : Nat) : ∀ k, k ≤ s → awv u a q k = awv u a' q k := by
  intro k
  induction k with
  | zero => intro _; rfl
  | succ k ih =>
    intro hk
    show (if ans u k = 1 ∧ u (21 * k + 3) = (q : Int) then mn2 (awv u a q k) (hw a k 0) else awv u a q k) = (if ans u k = 1 ∧ u (21 * k + 3) = (q : Int) then mn2 (awv u a' q k) (hw a' k 0) else awv u a' q k)
    rw [hw_g g (by omega), ih (by omega)]
theorem eav_g (g : AGR s a a') {q : Nat} (hq : q < s) : ∀ k, k ≤ s → eav u ro a s q k = eav u ro a' s q k := by
  intro k
  induction k with
  | zero => intro _; exact ebv_g g hq s (Nat.le_refl s)
  | succ k ih =>
    intro hk
    show (if ans u k = 1 ∧ u (21 * k + 3) = (q : Int) ∧ (u (21 * k + 0) = 4 ∨ a 2 k ≠ 0) then ea (eav u ro a s q k) (a 2 q) (hw a k (ro 5)) 2 (k : Int) else eav u ro a s q k) = (if ans u k = 1 ∧ u (21 * k + 3) = (q : Int) ∧ (u (21 * k + 0) = 4 ∨ a' 2 k ≠ 0) then ea (eav u ro a' s q k) (a' 2 q) (hw a' k (ro 5)) 2 (k : Int) else eav u ro a' s q k)
    rw [hw_g g (by omega), ih (by omega), (g q hq).2.1, (g k (by omega)).2.1]
theorem yc_g (g : AGR s a a') {k : Nat} (hk : k < s) (m : Int) : yc u ro a s k m = yc u ro a' s k m := by
  unfold yc
  by_cases c : 0 ≤ u (21 * k + 3) ∧ u (21 * k + 3) < (k : Int)
  · have hq : (u (21 * k + 3)).toNat < s := by omega
    rw [(g k hk).2.2.1, (g _ hq).2.1, hw_g g hk, hw_g g hq, hw_g g hk, tbv_g g k s (Nat.le_refl s), o5_g g hq, eav_g g hq s (Nat.le_refl s)]
  · rw [if_neg (fun z => c ⟨z.2.1, z.2.2.1⟩), if_neg (fun z => c ⟨z.2.1, z.2.2.1⟩)]
theorem yv_g (g : AGR s a a') : ∀ k, k ≤ s → yv u ro a s k = yv u ro a' s k := by
  intro k
  induction k with
  | zero => intro _; rfl
  | succ k ih =>
    intro hk
    show (if yc u ro a s k (yv u ro a s k).2.2 = 1 then ((k : Int), u (21 * k + 3), hw a k (yw u ro k)) else yv u ro a s k) = (if yc u ro a' s k (yv u ro a' s k).2.2 = 1 then ((k : Int), u (21 * k + 3), hw a' k (yw u ro k)) else yv u ro a' s k)
    rw [ih (by omega), yc_g g (by omega), hw_g g (by omega)]
theorem slc_g (g : AGR s a a') {k : Nat} (hk : k < s) (m : Int) : slc u ro a s k m = slc u ro a' s k m := by
  unfold slc
  rw [(g k hk).2.1, hw_g g hk, awv_g g k s (Nat.le_refl s), o5_g g hk, eav_g g hk s (Nat.le_refl s)]
theorem sv_g (g : AGR s a a') : ∀ k, k ≤ s → sv u ro a s k = sv u ro a' s k := by
  intro k
  induction k with
  | zero => intro _; exact yv_g g s (Nat.le_refl s)
  | succ k ih =>
    intro hk
    show (if slc u ro a s k (sv u ro a s k).2.2 = 1 then (-1, (k : Int), hw a k 2 + ro 8) else sv u ro a s k) = (if slc u ro a' s k (sv u ro a' s k).2.2 = 1 then (-1, (k : Int), hw a' k 2 + ro 8) else sv u ro a' s k)
    rw [ih (by omega), slc_g g (by omega), hw_g g (by omega)]
theorem brg_g (g : AGR s a a') : brg u ro a s = brg u ro a' s := by
  unfold brg
  rw [sv_g g s (Nat.le_refl s), yv_g g s (Nat.le_refl s)]
theorem DEC_g {b : Nat → Nat → Int} (g : AGR s a a') (D : DEC u ro a s b) : ∀ q, q < s → b 9 q = tbv u ro a' q s ∧ ET3 b q = eav u ro a' s q s ∧ b 5 q = o5 ro a' q ∧ b 10 q = awv u a' q s := fun q hq => by
  have d := D.1 q hq
  rw [← tbv_g g q s (Nat.le_refl s), ← eav_g g hq s (Nat.le_refl s), ← o5_g g hq, ← awv_g g q s (Nat.le_refl s)]
  exact d
end
/-- a bench's first rows at combo x -/
def arr (u ro bar : Nat → Int) (x : Int) : Nat → Nat → Int := fun j q => if j = 0 then hrv u x (q % 12) (q / 12) else if j = 2 then ofv u ro q else if j = 3 then ysv u ro q else if j = 4 then bar q else 0
theorem arr_0 {u ro bar : Nat → Int} {x : Int} {k i : Nat} (hk : k < 12) : arr u ro bar x 0 (12 * i + k) = hrv u x k i := by
  show hrv u x ((12 * i + k) % 12) ((12 * i + k) / 12) = _
  rw [show (12 * i + k) % 12 = k by omega, show (12 * i + k) / 12 = i by omega]
theorem arr_g {u ro bar : Nat → Int} {x : Int} {s : Nat} {a : Nat → Nat → Int} (hs : s ≤ 12) (X : HX u s x a) (h : ∀ k, k < s → a 2 k = ofv u ro k ∧ a 3 k = ysv u ro k ∧ a 4 k = bar k) : AGR s a (arr u ro bar x) := fun k hk => ⟨fun i hi => by rw [arr_0 (by omega)]; exact X k hk i hi, (h k hk).1, (h k hk).2.1, (h k hk).2.2⟩
/-- the bargain of a case by rules, when the barred ones are bar, at combo x -/
def bgn (u ro bar : Nat → Int) (s : Nat) (x : Int) : T3 := brg u ro (arr u ro bar x) s
/-- each combo has one -/
def SRE (u ro bar : Nat → Int) (s : Nat) : Prop := cbf u s ≤ 1024 ∧ ∀ x : Int, 0 ≤ x → x < cbf u s → (bgn u ro bar s x).2.2 ≠ 9999
/-- what bars, when sr says which cases are sure (2) -/
def brv (u sr : Nat → Int) (k : Nat) : Int := if 0 ≤ u (21 * k + 6) ∧ u (21 * k + 6) < 16 ∧ sr (u (21 * k + 6)).toNat ≠ 2 then 1 else 0
/-- which of the cases told are sure by rules ro: the first n of them -/
noncomputable def srt (U : Nat → Nat → Int) (S : Nat → Nat) (ro : Nat → Int) : Nat → Nat → Int
  | 0, _ => 0
  | n + 1, j => if j = n then (@ite _ (SRE (U n) ro (brv (U n) (srt U S ro n)) (S n)) (Classical.propDecidable _) 2 1) else srt U S ro n j
theorem srt_s {U : Nat → Nat → Int} {S : Nat → Nat} {ro : Nat → Int} {n j : Nat} (h : j < n) : srt U S ro (n + 1) j = srt U S ro n j := if_neg (by omega)
theorem srt_m {U : Nat → Nat → Int} {S : Nat → Nat} {ro : Nat → Int} {j : Nat} : ∀ d, srt U S ro (j + 1 + d) j = srt U S ro (j + 1) j := by
  intro d
  induction d with
  | zero => rfl
  | succ d ih => rw [show j + 1 + (d + 1) = (j + 1 + d) + 1 by omega, srt_s (by omega)]; exact ih
/-- the sureness of one -/
noncomputable def sre (U : Nat → Nat → Int) (S : Nat → Nat) (ro : Nat → Int) (j : Nat) : Int := srt U S ro (j + 1) j
theorem srt_e {U : Nat → Nat → Int} {S : Nat → Nat} {ro : Nat → Int} {n j : Nat} (h : j < n) : srt U S ro n j = sre U S ro j := by
  have := srt_m (U := U) (S := S) (ro := ro) (j := j) (n - (j + 1))
  rw [show j + 1 + (n - (j + 1)) = n by omega] at this
  exact this
theorem sre_e {U : Nat → Nat → Int} {S : Nat → Nat} {ro : Nat → Int} {j : Nat} : sre U S ro j = @ite _ (SRE (U j) ro (brv (U j) (srt U S ro j)) (S j)) (Classical.propDecidable _) 2 1 := if_pos rfl
theorem sre_y {U : Nat → Nat → Int} {S : Nat → Nat} {ro : Nat → Int} {j : Nat} (h : SRE (U j) ro (brv (U j) (srt U S ro j)) (S j)) : sre U S ro j = 2 := sre_e.trans (if_pos h)
theorem sre_n {U : Nat → Nat → Int} {S : Nat → Nat} {ro : Nat → Int} {j : Nat} (h : ¬ SRE (U j) ro (brv (U j) (srt U S ro j)) (S j)) : sre U S ro j = 1 := sre_e.trans (if_neg h)
theorem sre_r {U : Nat → Nat → Int} {S : Nat → Nat} {ro : Nat → Int} {j : Nat} : sre U S ro j = 1 ∨ sre U S ro j = 2 := by
  by_cases c : SRE (U j) ro (brv (U j) (srt U S ro j)) (S j)
  · exact Or.inr (sre_y c)
  · exact Or.inl (sre_n c)
end
section
/-! A BENCH WITH A CASE SEATED -/
def TKR (u ro bar : Nat → Int) (s : Nat) (a : Nat → Nat → Int) : Prop := ∀ k, k < s → a 2 k = ofv u ro k ∧ a 3 k = ysv u ro k ∧ a 4 k = bar k
/-- it has decided combo x -/
def DCD (u ro bar : Nat → Int) (s : Nat) (x : Int) (a : Nat → Nat → Int) : Prop := HX u s x a ∧ ∀ q, q < s → a 9 q = tbv u ro (arr u ro bar x) q s ∧ ET3 a q = eav u ro (arr u ro bar x) s q s ∧ a 5 q = o5 ro (arr u ro bar x) q ∧ a 10 q = awv u (arr u ro bar x) q s
theorem TKR_z {u ro bar : Nat → Int} {s : Nat} {a : Nat → Nat → Int} (t : TKR u ro bar s a) (hb : ∀ k, 0 ≤ bar k ∧ bar k ≤ 1) : BZ s a := fun q hq => by
  rw [(t q hq).1, (t q hq).2.1, (t q hq).2.2]
  exact ⟨of_b u ro q, ys_b u ro q, hb q⟩
theorem TKR_c {u ro bar : Nat → Int} {s : Nat} {a a' : Nat → Nat → Int} (t : TKR u ro bar s a) (e2 : a' 2 = a 2) (e3 : a' 3 = a 3) (e4 : a' 4 = a 4) : TKR u ro bar s a' := fun q hq => by
  rw [e2, e3, e4]
  exact t q hq
/-- what a seated case must be -/
def SEA (u ro bar : Nat → Int) (s : Nat) : Prop := (∀ q, q < s → u (21 * q + 20) = tnv u q) ∧ (∀ k, 0 ≤ bar k ∧ bar k ≤ 1) ∧ (∀ j, u j ≤ 2000 ∨ j % 21 = 20) ∧ (∀ x : Int, 0 ≤ x → x ≤ 1023 → ∀ k, k < s → ∀ i, i < 3 → -1 ≤ hrv u x k i ∧ hrv u x k i ≤ 5000) ∧ -1 ≤ ro 8
theorem cy_2 {g h : av_H} {b t c s r : Nat} {cb : Int} {u ro : Nat → Int} {a : Nat → Nat → Int} {mb mo ma : Int} (E : EB b t c s r cb u ro a mb mo ma h) (F : FN b g h) {bar : Nat → Int} (G : SEA u ro bar s) (T : TKR u ro bar s a) (hz : HZ u a) (x : Int) (qx : 0 ≤ x ∧ x ≤ 1023) {Q : Option av_V → av_H → Prop} (hq : ∀ (v : Int) h' a' m1 m2 m3, EB b t c s r cb u ro a' m1 m2 m3 h' → FN b g h' → HZ u a' → TKR u ro bar s a' → DCD u ro bar s x a' → bgn u ro bar s x = (m1, m2, m3) → MBR (m1, m2, m3) → ((v = 1 ∧ m3 ≠ 9999) ∨ (v = 0 ∧ m3 = 9999)) → Q (some (.inl v)) h') : av_wp none cd_2 0 [some (.inr (.inr (.inl (some (b))))), some (.inl x)] [] h Q := by
  have s12 := co_s12 (ib_co E.1)
  refine cx_2 E F x qx G.1 hz (TKR_z T G.2.1) G.2.2.1 (G.2.2.2.1 x qx.1 qx.2) G.2.2.2.2 (fun v h' a1 a' m1 m2 m3 E' F' X1 Z' J D B M p => ?_)
  have T1 : TKR u ro bar s a1 := TKR_c T (J 2 (by omega)) (J 3 (by omega)) (J 4 (by omega))
  have ag := arr_g (ro := ro) (bar := bar) s12 X1 T1
  refine hq v h' a' m1 m2 m3 E' F' Z' (TKR_c T1 (D.2 2 (by omega)) (D.2 3 (by omega)) (D.2 4 (by omega))) ⟨fun q hq i hi => ?_, DEC_g ag D⟩ ?_ M p
  · rw [D.2 0 (by omega)]
    exact X1 q hq i hi
  · rw [← B]
    exact (brg_g ag).symm
/-! all combos, from one on and around -/
def nrm (cb k : Int) : Int := if 0 ≤ k ∧ k < cb then k else 0
def RND (B : Int → Prop) (cb i k : Int) : Prop := ∃ c : Int, (0 ≤ c ∧ c < cb) ∧ nrm cb k = (if c + i < cb then c + i else c + i - cb) ∧ ∀ x, ((c ≤ x ∧ x < c + i ∧ x < cb) ∨ (0 ≤ x ∧ x < c + i - cb)) → B x
theorem RND_0 {B : Int → Prop} {cb k : Int} (h : 0 < cb) : RND B cb 0 k := by
  refine ⟨nrm cb k, ?_, ?_, fun x hx => ?_⟩
  · unfold nrm
    split <;> omega
  · have : nrm cb k < cb := by unfold nrm; split <;> omega
    rw [if_pos (by omega)]
    omega
  · have : nrm cb k < cb := by unfold nrm; split <;> omega
    omega
theorem RND_s {B : Int → Prop} {cb i k n : Int} (x : RND B cb i k) (hi : 0 ≤ i ∧ i < cb) (hn : n = nrm cb k) (hB : B n) : RND B cb (i + 1) (n + 1) := by
  obtain ⟨c, h1, h2, h3⟩ := x
  refine ⟨c, h1, ?_, fun y hy => ?_⟩
  · unfold nrm
    rw [← hn] at h2
    split at h2
    · split <;> split <;> omega
    · split <;> split <;> omega
  · rw [← hn] at h2
    by_cases e : y = n
    · rw [e]; exact hB
    · refine h3 y ?_
      split at h2 <;> omega
theorem RND_e {B : Int → Prop} {cb i k : Int} (x : RND B cb i k) (hi : i = cb) : ∀ y, 0 ≤ y → y < cb → B y := by
  obtain ⟨c, h1, h2, h3⟩ := x
  intro y y1 y2
  exact h3 y (by omega)
end
