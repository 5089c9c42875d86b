/-! WHAT IS FAULTED STAYS; ONE WORD BY ITS NUMBER; A SAYING'S ROW IN THE REFERENCE -/
theorem fal_id {t : TT} (h : t.2.2.2 ≠ -1) : fal t = t := by
  unfold fal
  rw [if_neg h]
theorem fal_ne {t : TT} : (fal t).2.2.2 ≠ -1 := by
  show (if t.2.2.2 = -1 then (t.1 : Int) else t.2.2.2) ≠ -1
  split <;> omega
section
variable {b : Nat → Int} {lim : Nat} {t : TT} {row : Nat} {r : Nat → Int}
theorem pkv_w {n : Nat} (h : t.2.2.2 ≠ -1) : pkv b t n = -1 := if_neg (fun z => h z.1)
theorem vlv_w (h : t.2.2.2 ≠ -1) : vlv b t = -1 := if_neg (fun z => h z.1)
theorem cho_w {n : Nat} (h : t.2.2.2 ≠ -1) : cho b lim t n = t := by
  unfold cho
  rw [if_pos (pkv_w h), fal_id h]
theorem nmt_w {lo hi : Int} (h : t.2.2.2 ≠ -1) : nmt b lim t lo hi = t := by
  unfold nmt
  rw [if_neg (fun z => z.1 (vlv_w h)), fal_id h]
theorem sem_w (h : t.2.2.2 ≠ -1) : sem b lim t = t := by
  unfold sem
  rw [if_neg (fun z => h z.1), fal_id h]
theorem rsW_w {n : Nat} (h : t.2.2.2 ≠ -1) : rsW b lim row n t r = (t, r) := by
  cases n with
  | zero => rfl
  | succ n =>
    unfold rsW
    rw [if_pos (pkv_w h)]
theorem rsO_w (h : t.2.2.2 ≠ -1) : (rsO b lim row t r).1 = t := by
  unfold rsO
  split
  · show cho b lim (fal t) 1 = t
    rw [fal_id h, cho_w h]
  · exact cho_w h
theorem rsS_w {k : Nat} {kind : Int} (h : t.2.2.2 ≠ -1) : rsS b lim k kind t r = (t, r) := by
  unfold rsS
  rw [if_neg (fun z => by have z1 := z.1.1; rw [vlv_w h] at z1; omega), fal_id h]
theorem rsP_w {i : Nat} {most : Int} (h : t.2.2.2 ≠ -1) : (rsP b lim row i most t r).1 = t := by
  unfold rsP
  rw [nmt_w h]
  unfold rsP1
  rw [if_pos (pkv_w h)]
theorem rsT_w {ah : Int} (h : t.2.2.2 ≠ -1) : (rsT b lim row ah t r).1 = t := by
  unfold rsT
  rw [rsW_w h]
  unfold rsT1
  rw [if_pos (show pkv b (t, r).1 3 = -1 from pkv_w h)]
  unfold rsT2
  rw [if_pos (show pkv b (t, r).1 4 = -1 from pkv_w h)]
theorem rsB_w (h : t.2.2.2 ≠ -1) : (rsB b lim row t r).1 = t := by
  unfold rsB
  rw [if_pos (pkv_w h), fal_id h, rsW_w h]
theorem rsM1_w {x : TT × (Nat → Int)} (h : x.1.2.2.2 ≠ -1) : rsM1 b lim row x = x := if_pos (pkv_w h)
theorem rsM2_w {x : TT × (Nat → Int)} (h : x.1.2.2.2 ≠ -1) : rsM2 b lim row x = x := if_pos (pkv_w h)
theorem rsM3_w {x : TT × (Nat → Int)} (h : x.1.2.2.2 ≠ -1) : (rsM3 b lim row x).1 = x.1 := by
  have e : (rsP b lim row 1 999 (cho b lim x.1 9) x.2).1 = x.1 := by
    rw [cho_w h]
    exact rsP_w h
  unfold rsM3
  rw [rsM1_w (by rw [e]; exact h), rsM2_w (by rw [e]; exact h), e]
theorem rsM0_f (e : pkv b t 6 = -1) : (rsM0 b lim row t r).1 = fal t := by
  unfold rsM0
  have e1 : cho b lim t 6 = fal t := if_pos e
  rw [e1, cho_w fal_ne]
  exact rsP_w fal_ne
theorem rsM_f (e : pkv b t 6 = -1) : (rsM b lim row t r).1 = fal t := by
  unfold rsM
  rw [if_pos (by omega), rsM3_w (by rw [rsM0_f e]; exact fal_ne), rsM0_f e]
theorem rsM_w (h : t.2.2.2 ≠ -1) : (rsM b lim row t r).1 = t := by
  rw [rsM_f (pkv_w h), fal_id h]
/-- no word of a saying: the fault is at once -/
theorem rsy_f {k : Nat} {ah : Int} (e : pkv b t 0 = -1) : (rsy b lim k ah t r).1 = fal t := by
  have e0 : cho b lim t 0 = fal t := if_pos e
  have e1 : (rs1 b lim k t r).1 = fal t := by
    unfold rs1
    rw [e0]
    exact cho_w fal_ne
  have ek : rsK b t = -1 := by
    unfold rsK
    rw [if_pos (by omega), e]
  unfold rsy
  rw [ek]
  obtain ⟨⟨t1, r1⟩, h1⟩ : ∃ x, rs1 b lim k t r = x := ⟨_, rfl⟩
  rw [h1] at e1 ⊢
  have e1 : t1 = fal t := e1
  subst e1
  unfold rs2
  rw [if_neg (by omega), rsS_w fal_ne]
  unfold rs3
  rw [if_neg (by omega)]
  unfold rs4
  rw [if_neg (by omega)]
  show sem b lim (rsM b lim (k * 21) (fal t) r1).1 = fal t
  rw [rsM_w fal_ne, sem_w fal_ne]
/-- what stands without fault had none before -/
theorem nmt_o {lo hi : Int} (h : (nmt b lim t lo hi).2.2.2 = -1) : t.2.2.2 = -1 ∧ vlv b t ≠ -1 ∧ lo ≤ vlv b t ∧ vlv b t ≤ hi ∧ nmv b t lo hi = vlv b t ∧ nmt b lim t lo hi = adv b lim t := by
  by_cases e : vlv b t ≠ -1 ∧ lo ≤ vlv b t ∧ vlv b t ≤ hi
  · have e1 : nmt b lim t lo hi = adv b lim t := if_pos e
    have e2 : nmv b t lo hi = vlv b t := if_pos e
    rw [e1] at h
    exact ⟨h, e.1, e.2.1, e.2.2, e2, e1⟩
  · have e1 : nmt b lim t lo hi = fal t := if_neg e
    rw [e1] at h
    exact absurd h fal_ne
theorem cho_o {n : Nat} (h : (cho b lim t n).2.2.2 = -1) : t.2.2.2 = -1 ∧ pkv b t n ≠ -1 ∧ cho b lim t n = adv b lim t := by
  by_cases e : pkv b t n = -1
  · rw [show cho b lim t n = fal t from if_pos e] at h
    exact absurd h fal_ne
  · rw [show cho b lim t n = adv b lim t from if_neg e] at h ⊢
    exact ⟨h, e, rfl⟩
theorem sem_o (h : (sem b lim t).2.2.2 = -1) : t.2.2.2 = -1 := by
  by_cases e : t.2.2.2 = -1 ∧ t.2.2.1 = 3
  · exact e.1
  · rw [show sem b lim t = fal t from if_neg e] at h
    exact absurd h fal_ne
/-- one word by its number -/
theorem pk1 {n : Nat} {w : Int} (k : TKW b t) (e : ∀ {f p : Nat}, f ≤ p → (∀ j, f ≤ j → j < p → 97 ≤ b j ∧ b j ≤ 122) → pkf b f p (av_lit n) 0 f true = (if txt b f (p - f) = w then 0 else -1)) : ((t.2.2.2 = -1 ∧ t.2.2.1 = 1 ∧ txtv b t = w) → ¬ pkv b t n = -1) ∧ (¬ (t.2.2.2 = -1 ∧ t.2.2.1 = 1 ∧ txtv b t = w) → pkv b t n = -1) := by
  constructor
  · intro h
    have z3 : pkv b t n = pkf b t.1 t.2.1 (av_lit n) 0 t.1 true := if_pos ⟨h.1, h.2.1⟩
    have z1 : txtv b t = txt b t.1 (t.2.1 - t.1) := if_pos h.2.1
    rw [e k.1 (k.2.1 h.2.1), ← z1, if_pos h.2.2] at z3
    omega
  · intro h
    by_cases h2 : t.2.2.2 = -1 ∧ t.2.2.1 = 1
    · have z3 : pkv b t n = pkf b t.1 t.2.1 (av_lit n) 0 t.1 true := if_pos h2
      have z1 : txtv b t = txt b t.1 (t.2.1 - t.1) := if_pos h2.2
      rw [e k.1 (k.2.1 h2.2), ← z1, if_neg (fun z => h ⟨h2.1, h2.2, z⟩)] at z3
      exact z3
    · exact if_neg h2
theorem adv_gt (h : (adv b lim t).2.2.1 ≠ 0) (w : t.2.1 ≤ lim) : t.2.1 < (adv b lim t).2.1 := by
  have e1 := edn_le (b := b) (s := 4) (lim - t.2.1) t.2.1 rfl w
  generalize hk : edn b lim 4 t.2.1 = k at e1
  by_cases hl : k < lim
  · by_cases h12 : so (b k) = 1 ∨ so (b k) = 2
    · have e2 := edn_le (b := b) (s := so (b k)) (lim - (k + 1)) (k + 1) rfl (by omega)
      have ea : adv b lim t = (k, edn b lim (so (b k)) (k + 1), so (b k), t.2.2.2) := by simp only [adv, hk, if_pos hl, if_pos h12]
      rw [ea]
      show t.2.1 < edn b lim (so (b k)) (k + 1)
      omega
    · have ea : adv b lim t = (k, k + 1, so (b k), t.2.2.2) := by simp only [adv, hk, if_pos hl, if_neg h12]
      rw [ea]
      show t.2.1 < k + 1
      omega
  · have ea : adv b lim t = (k, k, 0, t.2.2.2) := by simp only [adv, hk, if_neg hl]
    rw [ea] at h
    exact absurd rfl h
theorem pkv_s {n : Nat} (h : pkv b t n ≠ -1) : t.2.2.2 = -1 ∧ t.2.2.1 = 1 := by
  by_cases e : t.2.2.2 = -1 ∧ t.2.2.1 = 1
  · exact e
  · exact absurd (if_neg e) h
end
section
variable {g h : av_H} {b : Nat → Int} {lim : Nat} {t : TT} {x17 : Int} {A : Nat → Nat → Int}
theorem ct_132p (N : MT b lim t x17 A h) (F : FD g h) (w : Int) (qw : -9 ≤ w ∧ w ≤ 9000000000000000000) (n : Nat) (e : ∀ {f p : Nat}, f ≤ p → (∀ j, f ≤ j → j < p → 97 ≤ b j ∧ b j ≤ 122) → pkf b f p (av_lit n) 0 f true = (if txt b f (p - f) = w then 0 else -1)) {Q : Option av_V → av_H → Prop} (hq1 : ¬ pkv b t n = -1 → Q (some (.inl 1)) h) (hq0 : pkv b t n = -1 → Q (some (.inl 0)) h) : av_wp none cd_132 0 [some (.inr (.inr (.inl (some (77))))), some (.inr (.inl w)), none] [] h Q :=
  ct_132 N F w qw (fun z => hq1 ((pk1 N.2.2 e).1 z)) (fun z => hq0 ((pk1 N.2.2 e).2 z))
theorem ct_133p (N : MT b lim t x17 A h) (F : FD g h) (w : Int) (qw : -9 ≤ w ∧ w ≤ 9000000000000000000) (n : Nat) (e : ∀ {f p : Nat}, f ≤ p → (∀ j, f ≤ j → j < p → 97 ≤ b j ∧ b j ≤ 122) → pkf b f p (av_lit n) 0 f true = (if txt b f (p - f) = w then 0 else -1)) {Q : Option av_V → av_H → Prop} (hq : ∀ h', MT b lim (cho b lim t n) x17 A h' → FD g h' → Q none h') : av_wp none cd_133 0 [some (.inr (.inr (.inl (some (77))))), some (.inr (.inl w)), none] [] h Q :=
  ct_133 N F w qw (fun z h' N' F' => hq h' (by rw [show cho b lim t n = adv b lim t from if_neg ((pk1 N.2.2 e).1 z)]; exact N') F') (fun z h' N' F' => hq h' (by rw [show cho b lim t n = fal t from if_pos ((pk1 N.2.2 e).2 z)]; exact N') F')
/-- a hand, unlike y -/
def hnd (b : Nat → Int) (lim : Nat) (t : TT) (y : Int) : TT := if pkv b t 1 = -1 ∨ pkv b t 1 = y then fal t else adv b lim t
theorem hnd_o {y : Int} (h : (hnd b lim t y).2.2.2 = -1) : t.2.2.2 = -1 ∧ pkv b t 1 ≠ -1 ∧ pkv b t 1 ≠ y ∧ hnd b lim t y = adv b lim t := by
  by_cases e : pkv b t 1 = -1 ∨ pkv b t 1 = y
  · rw [show hnd b lim t y = fal t from if_pos e] at h
    exact absurd h fal_ne
  · rw [show hnd b lim t y = adv b lim t from if_neg e] at h ⊢
    exact ⟨h, fun z => e (Or.inl z), fun z => e (Or.inr z), rfl⟩
theorem ct_137p (N : MT b lim t x17 A h) (F : FD g h) (y : Int) (qy : -2147483648 ≤ y ∧ y ≤ 2147483647) {Q : Option av_V → av_H → Prop} (hq : ∀ (v : Int) h', (0 ≤ v ∧ v ≤ 2) → ((hnd b lim t y).2.2.2 = -1 → v = pkv b t 1) → MT b lim (hnd b lim t y) x17 A h' → FD g h' → Q (some (.inl v)) h') : av_wp none cd_137 0 [some (.inr (.inr (.inl (some (77))))), some (.inl y), none] [] h Q := by
  refine ct_137 N F y qy (fun z h' N' F' => ?_) (fun v e1 e2 e3 h' N' F' => ?_)
  · have e : hnd b lim t y = fal t := if_pos z
    refine hq 0 h' (by omega) (fun z2 => ?_) (by rw [e]; exact N') F'
    rw [e] at z2
    exact absurd z2 fal_ne
  · have e : hnd b lim t y = adv b lim t := if_neg (by omega)
    have g1 := pkv_le (b := b) (t := t) 1 2 rfl
    exact hq v h' (by omega) (fun _ => e1) (by rw [e]; exact N') F'
end
/-! a saying's row: which array, which place -/
def vq (o : Nat) : Nat := [82, 83, 84, 85, 86, 87, 88, 91, 91, 91, 90, 90, 90, 90, 90, 92, 92, 92, 89].getD o 0
def vm (o : Nat) : Nat := [1, 1, 1, 1, 1, 1, 1, 3, 3, 3, 5, 5, 5, 5, 5, 3, 3, 3, 1].getD o 0
def vo (o : Nat) : Nat := [0, 0, 0, 0, 0, 0, 0, 0, 1, 2, 0, 1, 2, 3, 4, 0, 1, 2, 0].getD o 0
def vk (i o : Nat) : Nat := vm o * i + vo o
theorem vq_inj : ∀ o, o < 19 → ∀ q, q < 19 → o ≠ q → vq o ≠ vq q ∨ (vm o = vm q ∧ vo o ≠ vo q) := by decide +kernel
theorem vq_in : ∀ o, o < 19 → 82 ≤ vq o ∧ vq o ≤ 92 := by decide
theorem vq_len : ∀ o, o < 19 → (c_K (vq o)).1 = 20 ∧ (c_K (vq o)).2 = 960 * vm o ∧ 1 ≤ vm o ∧ vo o < vm o ∧ vm o ≤ 5 := by decide +kernel
theorem vqk_ne {i o q : Nat} (ho : o < 19) (hq : q < 19) (e : o ≠ q) : ¬ (vq o = vq q ∧ vk i o = vk i q) := by
  intro z
  rcases vq_inj o ho q hq e with h | h
  · exact h z.1
  · have := z.2
    unfold vk at this
    rw [h.1] at this
    omega
/-- another saying's row is another place -/
theorem vk_row {i k o q : Nat} (ho : o < 19) (hq : q < 19) (e : i ≠ k) : ¬ (vq o = vq q ∧ vk i o = vk k q) := by
  intro z
  have l1 := vq_len o ho
  have l2 := vq_len q hq
  have em : vm o = vm q := by
    have h1 := l1.2.1
    have h2 := l2.2.1
    rw [z.1] at h1
    omega
  have := z.2
  unfold vk at this
  rw [← em] at this l2
  have h3 : vm o = 1 ∨ vm o = 2 ∨ vm o = 3 ∨ vm o = 4 ∨ vm o = 5 := by omega
  rcases h3 with h | h | h | h | h <;> rw [h] at this l1 l2 <;> omega
def BN (A : Nat → Nat → Int) : Prop := ∀ a, 82 ≤ a → a ≤ 92 → ∀ j, mlo a ≤ A a j ∧ A a j ≤ mhi a
def FRW (i : Nat) (A0 A : Nat → Nat → Int) : Prop := ∀ a j, (∀ o, o < 19 → ¬ (vq o = a ∧ vk i o = j)) → A a j = A0 a j
theorem FRW_row {i k o : Nat} {A0 A : Nat → Nat → Int} (f : FRW i A0 A) (ho : o < 19) (e : i ≠ k) : A (vq o) (vk k o) = A0 (vq o) (vk k o) := f _ _ (fun _ hq => vk_row hq ho e)
def MR (b : Nat → Int) (lim : Nat) (t : TT) (x17 : Int) (A0 : Nat → Nat → Int) (i : Nat) (R : Nat → Int) (h : av_H) : Prop := MT b lim t x17 (hA h) h ∧ (∀ o, o < 19 → hA h (vq o) (vk i o) = R o) ∧ BN (hA h) ∧ FRW i A0 (hA h)
section
variable {g h : av_H} {b : Nat → Int} {lim : Nat} {t t' : TT} {x17 : Int} {A0 : Nat → Nat → Int} {i : Nat} {R : Nat → Int}
theorem mr_tok {h' : av_H} (M : MR b lim t x17 A0 i R h) (N : MT b lim t' x17 (hA h) h') : MR b lim t' x17 A0 i R h' := by
  have e : hA h' = hA h := ns_A N.1
  refine ⟨by rw [e]; exact N, ?_, ?_, ?_⟩
  · rw [e]; exact M.2.1
  · rw [e]; exact M.2.2.1
  · rw [e]; exact M.2.2.2
theorem mr_L (M : MR b lim t x17 A0 i R h) : LY h := M.1.1.1
theorem mr_ld (M : MR b lim t x17 A0 i R h) (o : Nat) (ho : o < 19) {a : Nat} (ea : vq o = a) {x : Int} (ex : x = (vk i o : Int)) : hA h a (Int.toNat x) = R o := by
  subst ex
  rw [← ea]
  exact M.2.1 o ho
theorem mr_bd (M : MR b lim t x17 A0 i R h) (o : Nat) (ho : o < 19) : mlo (vq o) ≤ R o ∧ R o ≤ mhi (vq o) := by
  rw [← M.2.1 o ho]
  exact M.2.2.1 _ (vq_in o ho).1 (vq_in o ho).2 _
theorem FD_wA {a j : Nat} {v : Int} (F : FD g h) (e : rdA a = true) : FD g (hwA h a j v) := ⟨F.1, F.2.1, F.2.2.1, F.2.2.2.1, F.2.2.2.2.1, F.2.2.2.2.2.1, fun k hk => by
  have hne : k ≠ a := fun z => by rw [z, e] at hk; cases hk
  rw [hA_ne hne]
  exact F.2.2.2.2.2.2 k hk⟩
theorem rdA_in {a : Nat} (h1 : 82 ≤ a) (h2 : a ≤ 93) : rdA a = true := by
  simp only [rdA, Bool.and_eq_true]
  exact ⟨Nat.ble_eq_true_of_le h1, Nat.ble_eq_true_of_le h2⟩
theorem mt_wA {a j : Nat} {v : Int} {A : Nat → Nat → Int} (N : MT b lim t x17 A h) (ha : a ≠ 94) : MT b lim t x17 (hA (hwA h a j v)) (hwA h a j v) := by
  obtain ⟨⟨n1, n2, n3, n4, n5, n6⟩, w⟩ := N
  exact ⟨⟨n1, (hA_ne (Ne.symm ha)).trans n2, n3, n4, rfl, n6⟩, w⟩
theorem hA_wA {a j q k : Nat} {v : Int} : hA (hwA h a j v) q k = if q = a ∧ k = j then v else hA h q k := rfl
theorem mr_wA {v : Int} (M : MR b lim t x17 A0 i R h) (o : Nat) (ho : o < 19) (hv : mlo (vq o) ≤ v ∧ v ≤ mhi (vq o)) : MR b lim t x17 A0 i (av_u1 R o v) (hwA h (vq o) (vk i o) v) := by
  have hr := vq_in o ho
  refine ⟨mt_wA M.1 (by omega), fun q hq => ?_, fun a h1 h2 j => ?_, fun a j hj => ?_⟩
  · rw [hA_wA]
    by_cases e : q = o
    · subst e
      rw [if_pos ⟨rfl, rfl⟩]
      exact (if_pos rfl).symm
    · rw [if_neg (vqk_ne hq ho e)]
      exact (M.2.1 q hq).trans (if_neg e).symm
  · rw [hA_wA]
    split
    · next z => rw [z.1]; exact hv
    · exact M.2.2.1 a h1 h2 j
  · rw [hA_wA, if_neg (fun z => hj o ho ⟨z.1.symm, z.2.symm⟩)]
    exact M.2.2.2 a j hj
end
section
variable {sc : av_Sr} {cd : List (Nat × av_E)} {Q : Option av_V → av_H → Prop} {pc p' : Nat} {lv : av_L} {r' : List av_V} {g h : av_H} {b : Nat → Int} {lim : Nat} {t : TT} {x17 : Int} {A0 : Nat → Nat → Int} {i : Nat} {R : Nat → Int}
theorem mr_as {v x : Int} (hx : cd.lookup pc = some (av_q (.iastore))) (hp : pc + 1 = p') (M : MR b lim t x17 A0 i R h) (F : FD g h) (hi : i < 960) (o : Nat) (ho : o < 19) (ex : x = (vk i o : Int)) {a : Nat} (ea : vq o = a) (hv : mlo a ≤ v ∧ v ≤ mhi a) (hw : ∀ h', MR b lim t x17 A0 i (av_u1 R o v) h' → FD g h' → av_wp sc cd p' lv r' h' Q) : av_wp sc cd pc lv (.inl v :: .inl x :: .inr (.inr (.inl (some a))) :: r') h Q := by
  subst ea
  subst ex
  have l1 := vq_len o ho
  have l2 := vq_in o ho
  have hk : hK h (vq o) = (20, 960 * vm o) := by
    rw [ly_k M.1.1.1 (vq o) (Nat.ble_eq_true_of_le (by omega)), ← l1.1, ← l1.2.1]
  have hb : vk i o < 960 * vm o := by
    unfold vk
    have h3 : vm o = 1 ∨ vm o = 2 ∨ vm o = 3 ∨ vm o = 4 ∨ vm o = 5 := by omega
    rcases h3 with h | h | h | h | h <;> rw [h] at l1 ⊢ <;> omega
  exact wq_as (n := 960 * vm o) hx hp hk (by omega) (hw _ (mr_wA M o ho hv) (FD_wA F (rdA_in (by omega) (by omega))))
end
/-! the two rows of a saying are the same: up to which span (s), with its way (w = 1) or without -/
def RX (s w : Nat) (t : TT) (R r : Nat → Int) (row : Nat) : Prop := t.2.2.2 = -1 → (∀ o, o < 15 → o ≠ 4 → R o = r (row + o)) ∧ (∀ j, j < 3 → (r (row + 15 + j) = 0 ∧ R (15 + j) = R (7 + j)) ∨ (j < s ∧ 1 ≤ r (row + 15 + j) ∧ r (row + 15 + j) ≤ 16 ∧ R (15 + j) = R (7 + j) + r (row + 15 + j) - 1)) ∧ ((r (row + 18) = 0 ∧ R 18 = 0) ∨ (r (row + 18) = 2 ∧ R 18 = 1)) ∧ r (row + 19) = 0 ∧ (w = 1 → R 4 = r (row + 4))
section
variable {s w : Nat} {t t' : TT} {R r : Nat → Int} {row : Nat}
theorem rx_t (X : RX s w t R r row) (e : t'.2.2.2 = -1 → t.2.2.2 = -1) : RX s w t' R r row := fun z => X (e z)
theorem rx_f (e : t.2.2.2 ≠ -1) : RX s w t R r row := fun z => absurd z e
theorem rx_s {s' : Nat} (X : RX s w t R r row) (e : s ≤ s') : RX s' w t R r row := fun z => by
  obtain ⟨x1, x2, x3⟩ := X z
  refine ⟨x1, fun j hj => ?_, x3⟩
  rcases x2 j hj with h | h
  · exact Or.inl h
  · exact Or.inr ⟨by omega, h.2⟩
theorem u1_eq {f : Nat → Int} {i : Nat} {v : Int} : av_u1 f i v i = v := if_pos rfl
theorem u1_ne {f : Nat → Int} {i j : Nat} {v : Int} (e : j ≠ i) : av_u1 f i v j = f j := if_neg e
/-- a plain cell -/
theorem rx_u {o j : Nat} {v v' : Int} (X : RX s w t R r row) (ho : o < 15 ∧ o ≠ 4 ∧ (o < 7 ∨ 10 ≤ o)) (ej : j = row + o) (e : t.2.2.2 = -1 → v = v') : RX s w t (av_u1 R o v) (av_u1 r j v') row := fun z => by
  subst ej
  obtain ⟨x1, x2, x3, x4, x5⟩ := X z
  refine ⟨fun q h1 h2 => ?_, fun j hj => ?_, ?_, ?_, fun hw => ?_⟩
  · by_cases eq : q = o
    · subst eq; rw [u1_eq, u1_eq]; exact e z
    · rw [u1_ne eq, u1_ne (by omega)]; exact x1 q h1 h2
  · rw [u1_ne (by omega), u1_ne (by omega), u1_ne (by omega)]; exact x2 j hj
  · rw [u1_ne (by omega), u1_ne (by omega)]; exact x3
  · rw [u1_ne (by omega)]; exact x4
  · rw [u1_ne (by omega), u1_ne (by omega)]; exact x5 hw
/-- its way -/
theorem rx_way {v v' : Int} (X : RX s w t R r row) (e : t.2.2.2 = -1 → v = v') : RX s 1 t (av_u1 R 4 v) (av_u1 r (row + 4) v') row := fun z => by
  obtain ⟨x1, x2, x3, x4, x5⟩ := X z
  refine ⟨fun q h1 h2 => ?_, fun j hj => ?_, ?_, ?_, fun hw => ?_⟩
  · rw [u1_ne h2, u1_ne (by omega)]; exact x1 q h1 h2
  · rw [u1_ne (by omega), u1_ne (by omega), u1_ne (by omega)]; exact x2 j hj
  · rw [u1_ne (by omega), u1_ne (by omega)]; exact x3
  · rw [u1_ne (by omega)]; exact x4
  · rw [u1_eq, u1_eq]; exact e z
/-- a span's first, then its last -/
theorem rx_lo {i : Nat} {v v' : Int} (X : RX s w t R r row) (hi : i < 3) (hs : s ≤ i) (e : t.2.2.2 = -1 → v = v') : RX i w t (av_u1 (av_u1 R (7 + i) v) (15 + i) v) (av_u1 r (row + 7 + i) v') row := fun z => by
  obtain ⟨x1, x2, x3, x4, x5⟩ := X z
  refine ⟨fun q h1 h2 => ?_, fun j hj => ?_, ?_, ?_, fun hw => ?_⟩
  · rw [u1_ne (by omega)]
    by_cases eq : q = 7 + i
    · subst eq; rw [u1_eq, show row + (7 + i) = row + 7 + i by omega, u1_eq]; exact e z
    · rw [u1_ne eq, u1_ne (by omega)]; exact x1 q h1 h2
  · rw [u1_ne (i := row + 7 + i) (by omega)]
    by_cases eq : j = i
    · subst eq
      rw [u1_eq, u1_ne (by omega), u1_eq]
      rcases x2 j hj with h | h
      · exact Or.inl ⟨h.1, rfl⟩
      · omega
    · rw [u1_ne (by omega), u1_ne (by omega), u1_ne (by omega), u1_ne (by omega)]
      rcases x2 j hj with h | h
      · exact Or.inl h
      · exact Or.inr ⟨by omega, h.2⟩
  · rw [u1_ne (by omega), u1_ne (by omega), u1_ne (by omega)]; exact x3
  · rw [u1_ne (by omega)]; exact x4
  · rw [u1_ne (by omega), u1_ne (by omega), u1_ne (by omega)]; exact x5 hw
theorem rx_hi {i : Nat} {v v' f : Int} (X : RX i w t R r row) (hi : i < 3) (ef : R (7 + i) = f) (e : t.2.2.2 = -1 → v = v' ∧ f ≤ v' ∧ v' ≤ f + 15) {f' : Int} (ef' : t.2.2.2 = -1 → f' = f) : RX (i + 1) w t (av_u1 R (15 + i) v) (av_u1 r (row + 15 + i) (v' - f' + 1)) row := fun z => by
  obtain ⟨x1, x2, x3, x4, x5⟩ := X z
  refine ⟨fun q h1 h2 => ?_, fun j hj => ?_, ?_, ?_, fun hw => ?_⟩
  · rw [u1_ne (by omega), u1_ne (by omega)]; exact x1 q h1 h2
  · rw [u1_ne (i := 15 + i) (j := 7 + j) (by omega)]
    by_cases eq : j = i
    · subst eq
      rw [u1_eq, u1_eq, ef]
      have e1 := e z
      have e2 := ef' z
      exact Or.inr ⟨by omega, by omega, by omega, by omega⟩
    · rw [u1_ne (by omega), u1_ne (by omega)]
      rcases x2 j hj with h | h
      · exact Or.inl h
      · exact Or.inr ⟨by omega, h.2⟩
  · rw [u1_ne (by omega), u1_ne (by omega)]; exact x3
  · rw [u1_ne (by omega)]; exact x4
  · rw [u1_ne (by omega), u1_ne (by omega)]; exact x5 hw
/-- that it may be lost -/
theorem rx_ls (X : RX s w t R r row) : RX s w t (av_u1 R 18 1) (av_u1 r (row + 18) 2) row := fun z => by
  obtain ⟨x1, x2, x3, x4, x5⟩ := X z
  refine ⟨fun q h1 h2 => ?_, fun j hj => ?_, ?_, ?_, fun hw => ?_⟩
  · rw [u1_ne (by omega), u1_ne (by omega)]; exact x1 q h1 h2
  · rw [u1_ne (by omega), u1_ne (by omega), u1_ne (by omega)]; exact x2 j hj
  · rw [u1_eq, u1_eq]; exact Or.inr ⟨rfl, rfl⟩
  · rw [u1_ne (by omega)]; exact x4
  · rw [u1_ne (by omega), u1_ne (by omega)]; exact x5 hw
theorem rs0_v {k o : Nat} (ho : o < 21) : rs0 k r (k * 21 + o) = if (7 ≤ o ∧ o < 10) ∨ 15 ≤ o then 0 else -1 := by
  unfold rs0 ufil
  split
  · rw [if_pos (by omega)]
  · split
    · rw [if_pos (by omega)]
    · rw [if_pos (by omega), if_neg (by omega)]
theorem rs0_n {k j : Nat} (hj : j < k * 21 ∨ k * 21 + 21 ≤ j) : rs0 k r j = r j := by
  unfold rs0 ufil
  rw [if_neg (by omega), if_neg (by omega), if_neg (by omega)]
/-- a new row -/
theorem rx_0 {k : Nat} {wv v v' : Int} (e0 : R 0 = wv) (e1 : R 1 = v) (e2 : R 2 = -1) (e3 : R 3 = -1) (e5 : R 5 = -1) (e6 : R 6 = -1) (e7 : R 7 = 0 ∧ R 8 = 0 ∧ R 9 = 0) (e10 : R 10 = -1 ∧ R 11 = -1 ∧ R 12 = -1 ∧ R 13 = -1 ∧ R 14 = -1) (e15 : R 15 = 0 ∧ R 16 = 0 ∧ R 17 = 0) (e18 : R 18 = 0) (e : t.2.2.2 = -1 → v = v') : RX 0 0 t R (av_u1 (av_u1 (rs0 k r) (k * 21) wv) (k * 21 + 1) v') (k * 21) := fun z => by
  refine ⟨fun o h1 h2 => ?_, fun j hj => ?_, ?_, ?_, fun hw => absurd hw (by decide)⟩
  · by_cases q1 : o = 1
    · subst q1; rw [u1_eq, e1]; exact e z
    · rw [u1_ne (by omega)]
      by_cases q0 : o = 0
      · subst q0; rw [show k * 21 + 0 = k * 21 from rfl, u1_eq]; exact e0
      · rw [u1_ne (by omega), rs0_v (by omega)]
        rcases (show o = 2 ∨ o = 3 ∨ o = 5 ∨ o = 6 ∨ o = 7 ∨ o = 8 ∨ o = 9 ∨ o = 10 ∨ o = 11 ∨ o = 12 ∨ o = 13 ∨ o = 14 by omega) with q | q | q | q | q | q | q | q | q | q | q | q <;> subst q <;> simp [e2, e3, e5, e6, e7, e10]
  · rw [u1_ne (by omega), u1_ne (by omega), show k * 21 + 15 + j = k * 21 + (15 + j) by omega, rs0_v (by omega), if_pos (by omega)]
    left
    refine ⟨rfl, ?_⟩
    rcases (show j = 0 ∨ j = 1 ∨ j = 2 by omega) with q | q | q <;> subst q <;> simp [e7, e15]
  · rw [u1_ne (by omega), u1_ne (by omega), rs0_v (by omega), if_pos (by omega)]
    exact Or.inl ⟨rfl, e18⟩
  · rw [u1_ne (by omega), u1_ne (by omega), rs0_v (by omega), if_pos (by omega)]
end
section
variable {s w : Nat} {b : Nat → Int} {lim : Nat} {t : TT} {R r : Nat → Int} {row : Nat}
theorem hnd_1 : hnd b lim t (-1) = cho b lim t 1 := by
  unfold hnd cho
  by_cases e : pkv b t 1 = -1
  · rw [if_pos (Or.inl e), if_pos e]
  · rw [if_neg (by omega), if_neg e]
theorem hnd_O {y : Int} (e : t.2.2.2 = -1 → y = r (row + 1)) : hnd b lim t y = (rsO b lim row t r).1 := by
  by_cases h : t.2.2.2 = -1
  · rw [e h]
    unfold hnd rsO
    by_cases e1 : pkv b t 1 = r (row + 1)
    · rw [if_pos (Or.inr e1), if_pos e1]
      exact (cho_w fal_ne).symm
    · rw [if_neg e1]
      show (if pkv b t 1 = -1 ∨ pkv b t 1 = r (row + 1) then fal t else adv b lim t) = cho b lim t 1
      unfold cho
      by_cases e2 : pkv b t 1 = -1
      · rw [if_pos (Or.inl e2), if_pos e2]
      · rw [if_neg (by omega), if_neg e2]
  · rw [rsO_w h, show hnd b lim t y = fal t from if_pos (Or.inl (pkv_w h)), fal_id h]
theorem rx_O {y v : Int} (X : RX s w t R r row) (e : t.2.2.2 = -1 → y = r (row + 1)) (ev : (hnd b lim t y).2.2.2 = -1 → v = pkv b t 1) : RX s w (rsO b lim row t r).1 (av_u1 R 2 v) (rsO b lim row t r).2 row := by
  intro z
  rw [← hnd_O e] at z
  have z1 := hnd_o z
  have e1 : rsO b lim row t r = (cho b lim t 1, av_u1 r (row + 2) (pkv b t 1)) := if_neg (by rw [← e z1.1]; exact z1.2.2.1)
  rw [e1]
  exact rx_u (X := X) (o := 2) (by omega) rfl (fun _ => ev z) z1.1
theorem rx_S {k : Nat} {kind v : Int} (X : RX s w t R r (k * 21)) (ev : (rsS b lim k kind t r).1.2.2.2 = -1 → v = vlv b t) : RX s w (rsS b lim k kind t r).1 (av_u1 R 3 v) (rsS b lim k kind t r).2 (k * 21) := by
  intro z
  have ez := ev z
  by_cases c : (0 ≤ vlv b t ∧ vlv b t < k) ∧ fts r kind (r (k * 21 + 1)) ((vlv b t).toNat * 21)
  · have e1 : rsS b lim k kind t r = (adv b lim t, av_u1 r (k * 21 + 3) (vlv b t)) := if_pos c
    rw [e1] at z ⊢
    exact rx_u (X := X) (o := 3) (by omega) rfl (fun _ => ez) z
  · have e1 : rsS b lim k kind t r = (fal t, r) := if_neg c
    rw [e1] at z
    exact absurd z fal_ne
theorem rsW_e {n : Nat} (e : pkv b t 2 = -1) : rsW b lim row n t r = (t, r) := by
  cases n with
  | zero => rfl
  | succ n =>
    unfold rsW
    rw [if_pos e]
theorem rsW_g {n : Nat} (e : ¬ pkv b t 2 = -1) : rsW b lim row (n + 1) t r = rsW b lim row n (nmt b lim (adv b lim t) 0 999) (av_u1 r (row + 10 + (pkv b t 2).toNat) (nmv b (adv b lim t) 0 999)) := by
  conv => lhs; unfold rsW
  rw [if_neg e]
theorem pkv_p (k : TKW b t) (h : pkv b t 2 ≠ -1) : t.1 < t.2.1 := by
  have z2 := pkv_s h
  have z3 : pkv b t 2 = pkf b t.1 t.2.1 (av_lit 2) 0 t.1 true := if_pos z2
  have k1 := k.1
  by_cases e : t.1 < t.2.1
  · exact e
  · rw [ltw_2 k.1 (k.2.1 z2.2), show t.2.1 - t.1 = 0 by omega] at z3
    exact absurd z3 h
theorem vlv_s (h : vlv b t ≠ -1) : t.2.2.2 = -1 ∧ t.2.2.1 = 2 := by
  by_cases e : t.2.2.2 = -1 ∧ t.2.2.1 = 2 ∧ (t.2.1 : Int) - t.1 ≤ 4
  · exact ⟨e.1, e.2.1⟩
  · exact absurd (if_neg e) h
/-- how far the words have come -/
theorem rsW_m {n : Nat} (w0 : WF lim t) (hn : lim - t.2.1 < n + 1) (h : pkv b t 2 ≠ -1) (h2 : pkv b (nmt b lim (adv b lim t) 0 999) 2 ≠ -1) : lim - (nmt b lim (adv b lim t) 0 999).2.1 < n := by
  have s1 := pkv_s h2
  obtain ⟨o1, o2, o3, o4, o5, o6⟩ := nmt_o s1.1
  have s2 := vlv_s o2
  have a1 := adv_gt (b := b) (lim := lim) (t := t) (by rw [s2.2]; decide) w0.2.1
  have w1 := (adv_ok (b := b) w0).1
  rw [o6] at s1 ⊢
  have a2 := adv_gt (b := b) (lim := lim) (t := adv b lim t) (by rw [s1.2]; decide) w1.2.1
  have w2 := (adv_ok (b := b) w1).1.2.1
  omega
theorem vk90 {i w : Nat} (h : w < 5) : vk i (10 + w) = 5 * i + w ∧ vq (10 + w) = 90 := by
  rcases (show w = 0 ∨ w = 1 ∨ w = 2 ∨ w = 3 ∨ w = 4 by omega) with e | e | e | e | e <;> subst e <;> exact ⟨rfl, rfl⟩
theorem vk91 {i w : Nat} (h : w < 3) : vk i (7 + w) = 3 * i + w ∧ vq (7 + w) = 91 := by
  rcases (show w = 0 ∨ w = 1 ∨ w = 2 by omega) with e | e | e <;> subst e <;> exact ⟨rfl, rfl⟩
theorem vk92 {i w : Nat} (h : w < 3) : vk i (15 + w) = 3 * i + w ∧ vq (15 + w) = 92 := by
  rcases (show w = 0 ∨ w = 1 ∨ w = 2 by omega) with e | e | e <;> subst e <;> exact ⟨rfl, rfl⟩
theorem mr_0 {x17 : Int} {i : Nat} {h : av_H} (N : MT b lim t x17 (hA h) h) (B : BN (hA h)) : MR b lim t x17 (hA h) i (fun o => hA h (vq o) (vk i o)) h := ⟨N, fun _ _ => rfl, B, fun _ _ _ => rfl⟩
end
theorem vq_1 : ∀ o, o < 19 → vq o ≤ 89 → vm o = 1 ∧ vo o = 0 := by decide
theorem frw_a {A0 A : Nat → Nat → Int} {i j a : Nat} (f : FRW i A0 A) (ha : a ≤ 89) (e : j ≠ i) : A a j = A0 a j := f a j (fun o ho z => by
  have h1 := vq_1 o ho (by rw [z.1]; exact ha)
  have h2 := z.2
  unfold vk at h2
  rw [h1.1, h1.2] at h2
  omega)
theorem rsS_fr {b : Nat → Int} {lim k j : Nat} {kind : Int} {t : TT} {r : Nat → Int} (e : j ≠ k * 21 + 3) : (rsS b lim k kind t r).2 j = r j := by
  unfold rsS
  split
  · exact u1_ne e
  · rfl
theorem rsS_o {b : Nat → Int} {lim k : Nat} {kind : Int} {t : TT} {r : Nat → Int} (e : (rsS b lim k kind t r).1.2.2.2 = -1) : t.2.2.2 = -1 ∧ 0 ≤ vlv b t ∧ vlv b t < k ∧ rsS b lim k kind t r = (adv b lim t, av_u1 r (k * 21 + 3) (vlv b t)) := by
  by_cases c : (0 ≤ vlv b t ∧ vlv b t < k) ∧ fts r kind (r (k * 21 + 1)) ((vlv b t).toNat * 21)
  · have e1 : rsS b lim k kind t r = (adv b lim t, av_u1 r (k * 21 + 3) (vlv b t)) := if_pos c
    rw [e1] at e
    exact ⟨e, c.1.1, c.1.2, e1⟩
  · have e1 : rsS b lim k kind t r = (fal t, r) := if_neg c
    rw [e1] at e
    exact absurd e fal_ne
