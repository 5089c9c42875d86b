/-! THE REFERENCE DECIDES: step by step -/
theorem LR_z {u ro : Nat → Int} {a : Nat → Nat → Int} {s : Nat} {g h : av_H} (x : LR u ro a s (hA g)) (Z : ZE [113, 114, 115] [50, 51, 52, 53] g h) : LR u ro a s (hA h) := LR_c x (fun q hq => by
  refine Z.1 q ?_
  rcases (show q = 95 ∨ q = 96 ∨ q = 97 ∨ q = 99 ∨ q = 100 ∨ q = 101 ∨ q = 102 ∨ q = 103 ∨ q = 104 ∨ q = 109 ∨ q = 110 ∨ q = 111 by omega) with e | e | e | e | e | e | e | e | e | e | e | e <;> subst e <;> rfl)
theorem ZE_mo {L K L' K' : List Nat} {g h : av_H} (Z : ZE L K g h) (h1 : ∀ q, L'.elem q = false → L.elem q = false) (h2 : ∀ q, K'.elem q = false → K.elem q = false) : ZE L' K' g h := ⟨fun q e => Z.1 q (h1 q e), fun q e => Z.2 q (h2 q e)⟩
theorem elc {a q : Nat} {L : List Nat} : (a :: L).elem q = false ↔ (¬ q = a ∧ L.elem q = false) := by
  have e : (a :: L).elem q = (match q == a with | true => true | false => L.elem q) := rfl
  rw [e]
  by_cases c : q = a
  · subst c
    rw [show (q == q) = true from beq_self_eq_true q]
    exact ⟨fun z => (by cases z), fun z => absurd rfl z.1⟩
  · rw [show (q == a) = false from beq_false_of_ne c]
    exact ⟨fun z => ⟨c, z⟩, fun z => z.2⟩
theorem el_e (q : Nat) (h : [113, 114, 115].elem q = false) : [114, 115].elem q = false := (elc.mp h).2
theorem el_n (q : Nat) (h : [50, 51, 52, 53].elem q = false) : ([] : List Nat).elem q = false := rfl
theorem ZE_en {g h : av_H} (Z : ZE [114, 115] [] g h) : ZE [113, 114, 115] [50, 51, 52, 53] g h := ZE_mo Z el_e el_n
def R2P (t : Int × Int) : Prop := (-1 ≤ t.1 ∧ t.1 ≤ 9999) ∧ (0 ≤ t.2 ∧ t.2 ≤ 4)
theorem R2P_0 : R2P (9999, 0) := by
  refine ⟨?_, ?_⟩
  · show (-1 : Int) ≤ 9999 ∧ (9999 : Int) ≤ 9999; omega
  · show (0 : Int) ≤ 0 ∧ (0 : Int) ≤ 4; omega
theorem R2P_e {t : Int × Int} {h c : Int} (x : R2P t) (hh : -1 ≤ h ∧ h ≤ 9999) (hc : 0 ≤ c ∧ c ≤ 4) : R2P (eb2 t h c) := by
  unfold eb2
  split
  · exact x
  · exact ⟨hh, hc⟩
section
variable {u ro : Nat → Int} {a : Nat → Nat → Int} {s : Nat}
theorem frv_r (H : HBd s a) {o : Nat} : ∀ d, o + 1 + d ≤ s → R2P (frv u ro a o d) := by
  intro d
  induction d with
  | zero => intro _; exact R2P_0
  | succ d ih =>
    intro hd
    have b := bkv_r (u := u) (ro := ro) H (show o + 1 + d < s by omega) (o : Int)
    have n := nov_r (u := u) (ro := ro) H (show o + 1 + d < s by omega) (o : Int)
    exact R2P_e (R2P_e (ih (by omega)) (by omega) (by omega)) (by omega) (by omega)
end
def FOI (u ro : Nat → Int) (a : Nat → Nat → Int) (s o : Nat) (A : Nat → Nat → Int) : Prop := ∀ q, q < o → a 2 q ≠ 0 → A 113 q = o5 ro a q ∧ E2 A q = fre2 u ro a s q
def FOJ (u ro : Nat → Int) (a : Nat → Nat → Int) (s o k : Nat) (A : Nat → Nat → Int) : Prop := FOI u ro a s o A ∧ A 113 o = o5 ro a o ∧ E2 A o = frv u ro a o (k - (o + 1))
section
variable {u ro : Nat → Int} {a : Nat → Nat → Int} {s o k : Nat} {A A' : Nat → Nat → Int}
theorem FOI_0 : FOI u ro a s 0 A := fun q hq => absurd hq (by omega)
theorem FOI_n (x : FOI u ro a s o A) (h : a 2 o = 0) : FOI u ro a s (o + 1) A := fun q hq h2 => by
  by_cases e : q = o
  · rw [e] at h2; exact absurd h h2
  · exact x q (by omega) h2
theorem FOI_c (x : FOI u ro a s o A) (h : ∀ q, q ≠ o → A' 113 q = A 113 q ∧ A' 114 q = A 114 q ∧ A' 115 q = A 115 q) : FOI u ro a s o A' := fun q hq h2 => by
  have y := h q (by omega)
  unfold E2
  rw [y.1, y.2.1, y.2.2]
  exact x q hq h2
theorem FOI_s (x : FOI u ro a s o A) (h1 : A 113 o = o5 ro a o) (h2 : E2 A o = fre2 u ro a s o) : FOI u ro a s (o + 1) A := fun q hq h3 => by
  by_cases e : q = o
  · rw [e]; exact ⟨h1, h2⟩
  · exact x q (by omega) h3
end
/-! a bargain, as the reference has it -/
def BRR (t : T3) (h : av_H) : Prop := (t.2.2 = 9999 ∧ hF h 77 50 = 0) ∨ (t.2.2 ≠ 9999 ∧ hF h 77 50 = 1 ∧ hF h 77 51 = t.1 ∧ hF h 77 52 = t.2.1 ∧ hF h 77 53 = t.2.2)
section
variable {u ro : Nat → Int} {a : Nat → Nat → Int} {s k : Nat}
theorem opn_R {f e h : Int} (hf : -1 ≤ f) (hh : 0 ≤ h) : opR f e h = opn f e h := by
  unfold opR opn
  split <;> split <;> omega
theorem tk_i (W : UW u s) (H : HBd s a) {q : Nat} {h : Int} (hh : h ≤ 9999) : (∀ i, q < i → i < s → ¬ TKB u ro a q h i) ↔ h ≤ tbv u ro a q s := by
  rw [tbv_i H q h hh s (Nat.le_refl s)]
  constructor
  · intro z j hj h1 h2
    have w := W j hj
    have hr := hw_r H hj (ro 4)
    unfold hB at h1 ⊢
    by_cases c : u (21 * j + 0) = 5 ∧ 0 ≤ u (21 * j + 3) ∧ u (21 * j + 3) < (j : Int)
    · rw [if_pos c] at h1 ⊢
      have y := z j (by omega) hj
      unfold TKB at y
      omega
    · rw [if_neg c] at h1
      exact absurd rfl h1
  · intro z i h1 h2 y
    unfold TKB at y
    have w := W i h2
    have e : hB u ro a i = hw a i (ro 4) := if_pos ⟨y.1, by omega, by omega⟩
    have y2 := z i h2 (by rw [e]; omega) y.2.1
    rw [e] at y2
    omega
theorem an_i (W : UW u s) (H : HBd s a) {q : Nat} {h : Int} (hh : h < 9999) : (∀ i, q < i → i < s → ¬ ANB u a q h i) ↔ h < awv u a q s := by
  rw [awv_i H q h hh s (Nat.le_refl s)]
  constructor
  · intro z j hj h1 h2
    have w := W j hj
    unfold ans at h1
    split at h1
    · have y := z j (by omega) hj
      unfold ANB at y
      omega
    · omega
  · intro z i h1 h2 y
    unfold ANB at y
    have w := W i h2
    have e : ans u i = 1 := if_pos (by omega)
    have y2 := z i h2 e y.2.1
    omega
end
theorem BRR_n {t : T3} {g h : av_H} (x : BRR t g) (e : ∀ k, 50 ≤ k → k ≤ 53 → hF h 77 k = hF g 77 k) : BRR t h := by
  unfold BRR
  rw [e 50 (by omega) (by omega), e 51 (by omega) (by omega), e 52 (by omega) (by omega), e 53 (by omega) (by omega)]
  exact x
section
variable {u ro : Nat → Int} {a : Nat → Nat → Int} {s o k : Nat} {A : Nat → Nat → Int}
theorem FOJ_s {b n o' : Int} (x1 : FOI u ro a s o A) (x2 : A 113 o = o5 ro a o) (E : E2 A o = eb2 (eb2 (frv u ro a o (k - (o + 1))) b 1) n 2) (ho : (o : Int) = o') (hb : b = bkv u ro a k o') (hn : n = nov u ro a k o') (hk : o < k) : FOJ u ro a s o (k + 1) A := by
  subst ho
  refine ⟨x1, x2, ?_⟩
  rw [E, hb, hn, show k + 1 - (o + 1) = (k - (o + 1)) + 1 by omega]
  show _ = eb2 (eb2 (frv u ro a o (k - (o + 1))) (bkv u ro a (o + 1 + (k - (o + 1))) (o : Int)) 1) (nov u ro a (o + 1 + (k - (o + 1))) (o : Int)) 2
  rw [show o + 1 + (k - (o + 1)) = k by omega]
end
/-- what offersTo does -/
def OFP (x k z : Int) (h h' : av_H) : Prop := (hF h 77 50 = 1 ∧ hF h 77 53 ≤ z ∧ ∀ q, hF h' 77 q = hF h 77 q) ∨ (¬ (hF h 77 50 = 1 ∧ hF h 77 53 ≤ z) ∧ hF h' 77 50 = 1 ∧ hF h' 77 51 = x ∧ hF h' 77 52 = k ∧ hF h' 77 53 = z)
theorem BRR_o {t : T3} {h h' : av_H} {x k z : Int} (B : BRR t h) (P : OFP x k z h h') (hz : z < 9999) : (z < t.2.2 → BRR (x, k, z) h') ∧ (¬ z < t.2.2 → BRR t h') := by
  constructor
  · intro lt
    have set : hF h' 77 50 = 1 ∧ hF h' 77 51 = x ∧ hF h' 77 52 = k ∧ hF h' 77 53 = z := by
      rcases P with p | p
      · rcases B with b | b
        · omega
        · omega
      · exact p.2
    exact Or.inr ⟨show z ≠ 9999 by omega, set⟩
  · intro nlt
    rcases P with p | p
    · exact BRR_n B (fun q _ _ => p.2.2 q)
    · rcases B with b | b
      · omega
      · omega
section
variable {u ro : Nat → Int} {a : Nat → Nat → Int} {s k : Nat} {h h' : av_H}
theorem BRR_yn (B : BRR (yv u ro a s k) h) (n : ∀ m, ¬ yc u ro a s k m = 1) : BRR (yv u ro a s (k + 1)) h := by
  rw [yv_n rfl (n _)]
  exact B
theorem BRR_ys {x0 k0 z : Int} (B : BRR (yv u ro a s k) h) (P : OFP x0 k0 z h h') (hx : x0 = (k : Int)) (hk : u (21 * k + 3) = k0) (hz : hw a k (yw u ro k) = z) (hz9 : z < 9999) (y : ∀ m, z < m → yc u ro a s k m = 1) (n : ∀ m, ¬ z < m → ¬ yc u ro a s k m = 1) : BRR (yv u ro a s (k + 1)) h' := by
  have b := BRR_o B P hz9
  by_cases c : z < (yv u ro a s k).2.2
  · rw [yv_y rfl (y _ c) hk hz, ← hx]
    exact b.1 c
  · rw [yv_n rfl (n _ c)]
    exact b.2 c
theorem BRR_sn (B : BRR (sv u ro a s k) h) (n : ∀ m, ¬ slc u ro a s k m = 1) : BRR (sv u ro a s (k + 1)) h := by
  rw [sv_n rfl (n _)]
  exact B
theorem BRR_ss {k0 z r e : Int} (B : BRR (sv u ro a s k) h) (P : OFP (-1) k0 z h h') (hk : k0 = (k : Int)) (hr : hw a k 2 = r) (he : ro 8 = e) (hz : r + e = z) (hz9 : z < 9999) (y : ∀ m, z < m → slc u ro a s k m = 1) (n : ∀ m, ¬ z < m → ¬ slc u ro a s k m = 1) : BRR (sv u ro a s (k + 1)) h' := by
  have b := BRR_o B P hz9
  by_cases c : z < (sv u ro a s k).2.2
  · rw [sv_y rfl (y _ c) hr he, hz, ← hk]
    exact b.1 c
  · rw [sv_n rfl (n _ c)]
    exact b.2 c
end
section
variable {sc : av_Sr} {cd : List (Nat × av_E)} {Q : Option av_V → av_H → Prop} {pc p' : Nat} {lv : av_L} {r' : List av_V} {g h : av_H} {n a m : Int}
theorem xm_pf {idx f : Nat} {v : Int} (hx : cd.lookup pc = some (av_qf (.putfield idx) 8 f 0)) (hp : pc + 3 = p') (I : IMF n a m h) (F : FM g h) (hf : (f = 51 ∧ -1 ≤ v ∧ v ≤ 11) ∨ (f = 52 ∧ 0 ≤ v ∧ v ≤ 11) ∨ f = 53 ∨ f = 60 ∨ f = 61) (hm : mF 77 f = true) (hw : ∀ h', IMF n a m h' → FM g h' → h' = hwF h 77 f v → av_wp sc cd p' lv r' h' Q) : av_wp sc cd pc lv (.inl v :: .inr (.inr (.inl (some 77))) :: r') h Q :=
  wq_pi hx hp (congrArg Prod.fst (ly_k I.1.1.1 77 rfl)) rfl (hw _ ⟨IM_wF I.1 (by omega), (hF_oth (by omega)).trans I.2.1, (hF_oth (by omega)).trans I.2.2.1, (hF_oth (by omega)).trans I.2.2.2⟩ (FM_wF F hm) rfl)
theorem xm_pb {idx : Nat} {v : Int} (hx : cd.lookup pc = some (av_qf (.putfield idx) 8 50 3)) (hp : pc + 3 = p') (I : IMF n a m h) (F : FM g h) (hv : v = 0 ∨ v = 1) (hw : ∀ h', IMF n a m h' → FM g h' → h' = hwF h 77 50 v → av_wp sc cd p' lv r' h' Q) : av_wp sc cd pc lv (.inl v :: .inr (.inr (.inl (some 77))) :: r') h Q :=
  wq_pb hx hp (congrArg Prod.fst (ly_k I.1.1.1 77 rfl)) rfl hv (hw _ ⟨IM_wF I.1 (by omega), (hF_oth (by omega)).trans I.2.1, (hF_oth (by omega)).trans I.2.2.1, (hF_oth (by omega)).trans I.2.2.2⟩ (FM_wF F rfl) rfl)
end
theorem hF_es {h h' : av_H} {f : Nat} {v : Int} (e : h' = hwF h 77 f v) : hF h' 77 f = v := by
  subst e
  exact hF_self
theorem hF_eo {h h' : av_H} {f k : Nat} {v : Int} (e : h' = hwF h 77 f v) (m : k ≠ f) : hF h' 77 k = hF h 77 k := by
  subst e
  exact hF_oth m
theorem ZE_f4 {L : List Nat} {g h k : av_H} (a : ZE L [50, 51, 52, 53] g h) (b : ZE [] [50, 51, 52, 53] h k) : ZE L [50, 51, 52, 53] g k := ZE_tr a (ZE_mo b (fun _ _ => rfl) (fun _ z => z))
theorem ZE_e2 {g h k : av_H} (a : ZE [113, 114, 115] [50, 51, 52, 53] g h) (b : ZE [114, 115] [] h k) : ZE [113, 114, 115] [50, 51, 52, 53] g k := ZE_tr a (ZE_en b)
theorem BRR_53 {t : T3} {h : av_H} (B : BRR t h) (M : MBR t) : hF h 77 50 = 1 → -1 ≤ hF h 77 53 ∧ hF h 77 53 ≤ 9999 := fun e => by
  rcases B with b | b
  · omega
  · have := M.2.2
    omega
theorem LR_z0 {u ro : Nat → Int} {a : Nat → Nat → Int} {s : Nat} {g h : av_H} {K : List Nat} (x : LR u ro a s (hA g)) (Z : ZE [] K g h) : LR u ro a s (hA h) := LR_c x (fun q _ => Z.1 q rfl)
theorem ys_said {u ro : Nat → Int} {s k : Nat} (W : UW u s) (hk : k < s) (h : ysv u ro k ≠ 0) : 0 ≤ u (21 * k + 3) ∧ u (21 * k + 3) < (k : Int) := by
  have w := W k hk
  have k2 : 2 ≤ u (21 * k + 0) := by
    unfold ysv at h
    split at h
    · next z =>
      rcases z with z | z | z
      · omega
      · unfold smv at z
        split at z
        · omega
        · omega
      · omega
    · exact absurd rfl h
  omega
theorem opn_1 (f e h : Int) : opn f e h = 1 → h ≠ -1 ∧ f ≠ -1 ∧ f ≤ h ∧ h < e := by
  unfold opn
  split
  · next z => exact fun _ => z
  · intro z; omega
