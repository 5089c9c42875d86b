section
/-! THE REFERENCE WITH A CASE BROUGHT -/
/-- the case as it was brought, the barred ones bar -/
def LSB (u ro bar : Nat → Int) (s : Nat) (A : Nat → Nat → Int) : Prop := (∀ k, k < s → (A 96 k = u (21 * k + 0) ∧ A 97 k = u (21 * k + 4) ∧ A 99 k = u (21 * k + 5) ∧ A 100 k = u (21 * k + 3) ∧ A 101 k = u (21 * k + 1) ∧ A 102 k = u (21 * k + 2) ∧ A 103 k = bar k) ∧ (∀ j, j < 5 → A 104 (5 * k + j) = u (21 * k + 10 + j))) ∧ ∀ j, j < 13 → A 95 j = ro j
theorem arr_2 {u ro bar : Nat → Int} {x : Int} {k : Nat} : arr u ro bar x 2 k = ofv u ro k := rfl
theorem arr_3 {u ro bar : Nat → Int} {x : Int} {k : Nat} : arr u ro bar x 3 k = ysv u ro k := rfl
theorem arr_4 {u ro bar : Nat → Int} {x : Int} {k : Nat} : arr u ro bar x 4 k = bar k := rfl
theorem LSB_t {u ro bar : Nat → Int} {s : Nat} {A : Nat → Nat → Int} (z : LSB u ro bar s A) (x : Int) : LST u ro (arr u ro bar x) s A := ⟨fun k hk => by
  rw [arr_2, arr_3, arr_4]
  exact ⟨(z.1 k hk).1, (z.1 k hk).2, rfl, rfl⟩, z.2⟩
theorem HX_arr {u ro bar : Nat → Int} {s : Nat} {x : Int} (hs : s ≤ 12) : HX u s x (arr u ro bar x) := fun q hq i _ => arr_0 (by omega)
/-- what holds of case and rules -/
def RWF (u ro : Nat → Int) (s : Nat) : Prop := UW u s ∧ RLW ro ∧ (∀ j, u j ≤ 2000 ∨ j % 21 = 20) ∧ (∀ j, -1 ≤ u j) ∧ (∀ j, -2 ≤ ro j ∧ ro j ≤ 999) ∧ (∀ x : Int, 0 ≤ x → x ≤ 1023 → ∀ k, k < s → ∀ i, i < 3 → -1 ≤ hrv u x k i ∧ hrv u x k i ≤ 5000) ∧ s ≤ 12
theorem HBd_arr {u ro bar : Nat → Int} {s : Nat} {x : Int} (W : RWF u ro s) (h0 : 0 ≤ x) (h1 : x ≤ 1023) : HBd s (arr u ro bar x) := fun k hk i hi => by
  have s12 := W.2.2.2.2.2.2
  rw [arr_0 (by omega)]
  exact W.2.2.2.2.2.1 x h0 h1 k hk i hi
/-- brought -/
def RBB (u ro bar : Nat → Int) (s : Nat) (h : av_H) : Prop := LSB u ro bar s (hA h) ∧ LH2 u s (hA h 105) (hA h 106) (hA h 98)
/-- and what is asked is found -/
def RBA (u ro bar : Nat → Int) (s : Nat) (h : av_H) : Prop := RBB u ro bar s h ∧ AQL (cmv (hA h 105) (hA h 106) (hA h 98)) (4 * s) h
theorem RBB_z {u ro bar : Nat → Int} {s : Nat} {g h : av_H} (x : RBB u ro bar s g) (e : ∀ q, 95 ≤ q → q ≤ 106 → hA h q = hA g q) : RBB u ro bar s h := by
  unfold RBB LSB
  rw [e 95 (by omega) (by omega), e 96 (by omega) (by omega), e 97 (by omega) (by omega), e 98 (by omega) (by omega), e 99 (by omega) (by omega), e 100 (by omega) (by omega), e 101 (by omega) (by omega), e 102 (by omega) (by omega), e 103 (by omega) (by omega), e 104 (by omega) (by omega), e 105 (by omega) (by omega), e 106 (by omega) (by omega)]
  exact x
theorem ZE_low {L K : List Nat} {g h : av_H} (Z : ZE L K g h) (m : ∀ q, 95 ≤ q → q ≤ 106 → L.elem q = false) : ∀ q, 95 ≤ q → q ≤ 106 → hA h q = hA g q := fun q h1 h2 => Z.1 q (m q h1 h2)
theorem elem_12 {P : Nat → Prop} (h : P 95 ∧ P 96 ∧ P 97 ∧ P 98 ∧ P 99 ∧ P 100 ∧ P 101 ∧ P 102 ∧ P 103 ∧ P 104 ∧ P 105 ∧ P 106) : ∀ q, 95 ≤ q → q ≤ 106 → P q := fun q h1 h2 => by
  obtain ⟨a, b, c, d, e, f, g, i, j, k, l, m⟩ := h
  rcases (show q = 95 ∨ q = 96 ∨ q = 97 ∨ q = 98 ∨ q = 99 ∨ q = 100 ∨ q = 101 ∨ q = 102 ∨ q = 103 ∨ q = 104 ∨ q = 105 ∨ q = 106 by omega) with z | z | z | z | z | z | z | z | z | z | z | z <;> subst z <;> assumption
theorem RBB_1 {u ro bar : Nat → Int} {s : Nat} {g h : av_H} (x : RBB u ro bar s g) (Z : ZE [107, 108] [28, 29] g h) : RBB u ro bar s h := RBB_z x (ZE_low Z (elem_12 ⟨rfl, rfl, rfl, rfl, rfl, rfl, rfl, rfl, rfl, rfl, rfl, rfl⟩))
theorem RBB_2 {u ro bar : Nat → Int} {s : Nat} {g h : av_H} (x : RBB u ro bar s g) (Z : ZE [109, 110, 111, 112, 113, 114, 115] [50, 51, 52, 53] g h) : RBB u ro bar s h := RBB_z x (ZE_low Z (elem_12 ⟨rfl, rfl, rfl, rfl, rfl, rfl, rfl, rfl, rfl, rfl, rfl, rfl⟩))
theorem RBA_2 {u ro bar : Nat → Int} {s : Nat} {g h : av_H} (x : RBA u ro bar s g) (Z : ZE [109, 110, 111, 112, 113, 114, 115] [50, 51, 52, 53] g h) : RBA u ro bar s h := ⟨RBB_2 x.1 Z, by
  unfold AQL
  rw [Z.1 105 rfl, Z.1 106 rfl, Z.1 98 rfl, Z.1 107 rfl, Z.1 108 rfl, Z.2 28 rfl]
  exact x.2⟩
theorem cmf_cb {u : Nat → Int} {s : Nat} {lo hi ls : Nat → Int} (V : ∀ t, t < 4 * s → one1 (cmv lo hi ls) t = dvu u t) : ∀ k, k ≤ s → cmf lo hi ls (4 * k) = cbf u k := by
  intro k
  induction k with
  | zero => intro _; rfl
  | succ k ih =>
    intro hk
    have i1 := ih (by omega)
    have c0 := cmf_c (lo := lo) (hi := hi) (ls := ls) (4 * k)
    have c1 := cmf_c (lo := lo) (hi := hi) (ls := ls) (4 * k + 1)
    have c2 := cmf_c (lo := lo) (hi := hi) (ls := ls) (4 * k + 2)
    have c3 := cmf_c (lo := lo) (hi := hi) (ls := ls) (4 * k + 3)
    have g : ∀ j, j < 4 → one1 (cmv lo hi ls) (4 * k + j) = mvu u k j := fun j hj => (V _ (by omega)).trans (dvu_i hj)
    have hm : ∀ j, 1 ≤ mvu u k j := fun j => mx1_p _
    have h0 := hm 0
    have h1 := hm 1
    have h2 := hm 2
    have b0 := c0.1.1
    have p0 : 1 ≤ cmf lo hi ls (4 * k) * mvu u k 0 := by
      have q : 1 * 1 ≤ cmf lo hi ls (4 * k) * mvu u k 0 := Int.mul_le_mul b0 h0 (by omega) (by omega)
      omega
    have p1 : 1 ≤ cmf lo hi ls (4 * k) * mvu u k 0 * mvu u k 1 := by
      have q : 1 * 1 ≤ cmf lo hi ls (4 * k) * mvu u k 0 * mvu u k 1 := Int.mul_le_mul p0 h1 (by omega) (by omega)
      omega
    have p2 : 1 ≤ cmf lo hi ls (4 * k) * mvu u k 0 * mvu u k 1 * mvu u k 2 := by
      have q : 1 * 1 ≤ cmf lo hi ls (4 * k) * mvu u k 0 * mvu u k 1 * mvu u k 2 := Int.mul_le_mul p1 h2 (by omega) (by omega)
      omega
    have e : cmf lo hi ls (4 * (k + 1)) = cap (cmf lo hi ls (4 * k) * mvu u k 0 * mvu u k 1 * mvu u k 2 * mvu u k 3) := by
      rw [show 4 * (k + 1) = 4 * k + 3 + 1 by omega, c3.2, show 4 * k + 3 = 4 * k + 2 + 1 by omega, c2.2, show 4 * k + 2 = 4 * k + 1 + 1 by omega, c1.2, c0.2, show one1 (cmv lo hi ls) (4 * k) = mvu u k 0 from g 0 (by omega), g 1 (by omega), show 4 * k + 1 + 1 = 4 * k + 2 by omega, g 2 (by omega), show 4 * k + 2 + 1 = 4 * k + 3 by omega, g 3 (by omega), cap_m p0 h1, cap_m p1 h2, cap_m p2 (hm 3)]
    rw [e, i1]
    show _ = mn2 (cbf u k * (1 * mvu u k 0 * mvu u k 1 * mvu u k 2 * mvu u k 3)) 1025
    rw [Int.one_mul, ← Int.mul_assoc, ← Int.mul_assoc, ← Int.mul_assoc]
    unfold cap mn2
    split <;> split <;> omega
theorem cy_163 {g h : av_H} {n : Int} (I : IM h) (hn : hF h 77 27 = n) (F : FM g h) {u ro bar : Nat → Int} {s : Nat} (en : n = (s : Int)) (B : RBB u ro bar s h) {Q : Option av_V → av_H → Prop} (hq : ∀ a m h', (1 ≤ m ∧ m = cbf u s) → RBA u ro bar s h' → ZE [107, 108] [28, 29] h h' → IMF n a m h' → FM g h' → Q none h') : av_wp none cd_163 0 [some (.inr (.inr (.inl (some (77))))), none, none, none] [] h Q := by
  refine cx_163 I hn F (fun a m h' em al Z I' F' => ?_)
  have e4 : (4 * n).toNat = 4 * s := by omega
  rw [e4] at em al
  refine hq a m h' ⟨em.1, em.2.trans (cmf_cb (fun t ht => LH2_v B.2 ht) s (Nat.le_refl s))⟩ ⟨RBB_1 B Z, ?_⟩ Z I' F'
  rw [Z.1 105 rfl, Z.1 106 rfl, Z.1 98 rfl]
  exact al
theorem cy_181 {g h : av_H} {n a m : Int} (I : IMF n a m h) (F : FM g h) {u ro bar : Nat → Int} {s : Nat} (en : n = (s : Int)) (B : RBA u ro bar s h) (W : RWF u ro s) (x : Int) (qx : 0 ≤ x ∧ x ≤ 1023) {Q : Option av_V → av_H → Prop} (hq : ∀ h', IMF n a m h' → FM g h' → ZE [109, 110, 111, 112, 113, 114, 115] [50, 51, 52, 53] h h' → RBA u ro bar s h' → FOI u ro (arr u ro bar x) s s (hA h') → BRR (bgn u ro bar s x) h' → LR u ro (arr u ro bar x) s (hA h') → Q none h') : av_wp none cd_181 0 [some (.inr (.inr (.inl (some (77))))), some (.inl x)] [] h Q := by
  refine cx_181 I F en (LSB_t B.1.1 x) B.1.2 (by rw [show Int.toNat (4 * n) = 4 * s by omega]; exact B.2) W.1 W.2.1 (HBd_arr W qx.1 qx.2) W.2.2.1 W.2.2.2.1 W.2.2.2.2.1 x qx (HX_arr W.2.2.2.2.2.2) (fun h' I' F' Z fo br lr => ?_)
  exact hq h' I' F' Z (RBA_2 B Z) fo br lr
/-! what bars in the reference -/
def bbr (A : Nat → Nat → Int) (c k : Nat) : Int := if 0 ≤ A 88 (12 * c + k) ∧ A 116 (A 88 (12 * c + k)).toNat = 0 then 1 else 0
def BBR (A : Nat → Nat → Int) (c e : Nat) (h : av_H) : Prop := ∀ i, i < e → hA h 103 i = bbr A c i
theorem BBR_0 {A : Nat → Nat → Int} {c : Nat} {h : av_H} : BBR A c 0 h := fun i hi => absurd hi (by omega)
theorem BBR_e {A : Nat → Nat → Int} {c e e' : Nat} {h : av_H} (x : BBR A c e h) (he : e' ≤ e) : BBR A c e' h := fun i hi => x i (by omega)
theorem BBR_n {A : Nat → Nat → Int} {c e : Nat} {h : av_H} {q j : Nat} {v : Int} (x : BBR A c e h) (hq : (103 : Nat) ≠ q) : BBR A c e (hwA h q j v) := fun i hi => by
  rw [hA_ne hq]
  exact x i hi
theorem BBR_s {A : Nat → Nat → Int} {c e : Nat} {h : av_H} {j : Nat} {v : Int} (x : BBR A c e h) (hj : j = e) (hv : v = bbr A c e) : BBR A c (e + 1) (hwA h 103 j v) := fun i hi => by
  rw [hA_wu]
  by_cases z : i = j
  · rw [z, u1_eq, hj]
    exact hv
  · rw [u1_ne z]
    exact x i (by omega)
/-- the reference's cases as pictures -/
def RCA (A : Nat → Nat → Int) (U : Nat → Nat → Int) (S : Nat → Nat) (c : Nat) : Prop := A 81 c = (S c : Int) ∧ (∀ k, k < S c → (A 82 (12 * c + k) = U c (21 * k + 0) ∧ A 86 (12 * c + k) = U c (21 * k + 4) ∧ A 87 (12 * c + k) = U c (21 * k + 5) ∧ A 85 (12 * c + k) = U c (21 * k + 3) ∧ A 83 (12 * c + k) = U c (21 * k + 1) ∧ A 84 (12 * c + k) = U c (21 * k + 2) ∧ A 88 (12 * c + k) = U c (21 * k + 6)) ∧ (∀ j, j < 5 → A 90 (5 * (12 * c) + (5 * k + j)) = U c (21 * k + 10 + j))) ∧ LH (U c) (S c) (fun i => A 91 (3 * (12 * c) + i)) (fun i => A 92 (3 * (12 * c) + i)) (fun i => A 89 (1 * (12 * c) + i))
theorem LH_cg {u : Nat → Int} {s : Nat} {lo hi ls lo' hi' ls' : Nat → Int} (x : LH u s lo hi ls) (e1 : ∀ i, i < 3 * s → lo' i = lo i) (e2 : ∀ i, i < 3 * s → hi' i = hi i) (e3 : ∀ i, i < s → ls' i = ls i) : LH u s lo' hi' ls' := fun k hk => by
  have h := x k hk
  refine ⟨fun j hj => ?_, ?_, h.2.2⟩
  · rw [e1 (3 * k + j) (by omega), e2 (3 * k + j) (by omega)]
    exact h.1 j hj
  · rw [e3 k hk]
    exact h.2.1
theorem RBB_of {U : Nat → Nat → Int} {S : Nat → Nat} {c : Nat} {n : Int} {g h : av_H} {ro bar : Nat → Int} (R : RCA (hA g) U S c) (hn : hA g 81 c = n) (b : BC c (fun a => bmul a * n.toNat) (hA g) h) (hb : ∀ k, k < S c → hA h 103 k = bar k) (hr : ∀ j, j < 13 → hA h 95 j = ro j) : RBB (U c) ro bar (S c) h := by
  have en : n.toNat = S c := by
    have := R.1
    omega
  rw [en] at b
  have w : ∀ a, 96 ≤ a → a ≤ 106 → bmul a = 1 → ∀ k, k < S c → hA h a k = hA g (bsrc a) (12 * c + k) := fun a h1 h2 h3 k hk => by
    have := b a h1 h2 k (by show k < bmul a * S c; rw [h3]; omega)
    rw [this, h3, Nat.one_mul]
  refine ⟨⟨fun k hk => ⟨?_, fun j hj => ?_⟩, hr⟩, LH2_of (LH_cg R.2.2 (fun i hi => ?_) (fun i hi => ?_) (fun i hi => ?_))⟩
  · have r := (R.2.1 k hk).1
    exact ⟨(w 96 (by omega) (by omega) rfl k hk).trans r.1, (w 97 (by omega) (by omega) rfl k hk).trans r.2.1, (w 99 (by omega) (by omega) rfl k hk).trans r.2.2.1, (w 100 (by omega) (by omega) rfl k hk).trans r.2.2.2.1, (w 101 (by omega) (by omega) rfl k hk).trans r.2.2.2.2.1, (w 102 (by omega) (by omega) rfl k hk).trans r.2.2.2.2.2.1, hb k hk⟩
  · exact (b 104 (by omega) (by omega) (5 * k + j) (by show 5 * k + j < 5 * S c; omega)).trans ((R.2.1 k hk).2 j hj)
  · exact b 105 (by omega) (by omega) i (by show i < 3 * S c; omega)
  · exact b 106 (by omega) (by omega) i (by show i < 3 * S c; omega)
  · exact b 98 (by omega) (by omega) i (by show i < 1 * S c; omega)
/-! what is needed, in the reference -/
def NDR (U : Nat → Nat → Int) (S : Nat → Nat) (x : Nat) (j : Int) (nd : Nat → Int) : Prop := (∀ i, i < 16 → 0 ≤ nd i ∧ nd i ≤ 1) ∧ nd x = 1 ∧ ∀ i : Nat, j < (i : Int) → i ≤ x → nd i = 1 → ∀ g, gvn (U i) (S i) g → nd g = 1
theorem NDR_0 {U : Nat → Nat → Int} {S : Nat → Nat} {x : Nat} {y : Int} {nd : Nat → Int} (hx : x < 16) (hy : y = (x : Int)) (h : ∀ j, j < 16 → nd j = if j = x then 1 else 0) : NDR U S x y nd := by
  refine ⟨fun i hi => ?_, ?_, fun i h1 h2 => by omega⟩
  · rw [h i hi]
    split <;> omega
  · rw [h x hx, if_pos rfl]
theorem NDR_s {U : Nat → Nat → Int} {S : Nat → Nat} {x : Nat} {j : Int} {k : Nat} {nd nd' : Nat → Int} (y : NDR U S x j nd) (hj : 0 ≤ j ∧ j ≤ (x : Int)) (hx : x < 16) (W : ∀ q, q < S j.toNat → U j.toNat (21 * q + 6) < j) (M : MGI (U j.toNat) nd k nd') (hk : k ≤ S j.toNat) (e : k = S j.toNat ∨ nd' j.toNat = 0) : NDR U S x (j - 1) nd' := by
  refine ⟨M.2, (M.1 x hx).mpr (Or.inl y.2.1), fun i h1 h2 h3 g hg => ?_⟩
  by_cases c : i = j.toNat
  · subst c
    rcases e with e | e
    · rw [← e] at hg
      exact (M.1 g (gvn_l hg)).mpr (Or.inr hg)
    · omega
  · refine (M.1 g (gvn_l hg)).mpr (Or.inl (y.2.2 i (by omega) h2 ?_ g hg))
    rcases (M.1 i (by omega)).mp h3 with z | ⟨q, q1, q2, q3⟩
    · exact z
    · have := W q (by omega)
      omega
/-- what is known to be sure, below j -/
def SRR (U : Nat → Nat → Int) (S : Nat → Nat) (ro nd : Nat → Int) (j : Nat) (sr : Nat → Int) : Prop := ∀ i, i < j → nd i = 1 → sr i = sre U S ro i - 1
section
variable {U : Nat → Nat → Int} {S : Nat → Nat} {ro nd sr : Nat → Int} {j : Nat} {v : Int}
theorem SRR_0 : SRR U S ro nd 0 sr := fun i hi => absurd hi (by omega)
theorem SRR_n (x : SRR U S ro nd j sr) (h : nd j = 0) : SRR U S ro nd (j + 1) sr := fun i h1 h3 => by
  by_cases c : i = j
  · rw [c, h] at h3; omega
  · exact x i (by omega) h3
theorem SRR_s (x : SRR U S ro nd j sr) (hv : v = sre U S ro j - 1) : SRR U S ro nd (j + 1) (av_u1 sr j v) := fun i h1 h3 => by
  by_cases c : i = j
  · rw [c, u1_eq]; exact hv
  · rw [u1_ne c]; exact x i (by omega) h3
/-- the reference bars what isn't sure -/
theorem bbr_b {A : Nat → Nat → Int} {c k x : Nat} (R : RCA A U S c) (hk : k < S c) (W : U c (21 * k + 6) < (c : Int)) (hc : c ≤ 16) (N : ∀ g, gvn (U c) (S c) g → nd g = 1) (X : SRR U S ro nd c (A 116)) : bbr A c k = brv (U c) (srt U S ro c) k := by
  unfold bbr brv
  rw [((R.2.1 k hk).1).2.2.2.2.2.2]
  by_cases p : 0 ≤ U c (21 * k + 6)
  · have l : (U c (21 * k + 6)).toNat < c := by omega
    have nn := N (U c (21 * k + 6)).toNat ⟨k, hk, by omega, by omega⟩
    have s1 := X _ l nn
    have s2 := sre_r (U := U) (S := S) (ro := ro) (j := (U c (21 * k + 6)).toNat)
    rw [srt_e l, s1]
    rcases s2 with e | e
    · rw [e, if_pos ⟨p, by decide⟩, if_pos ⟨p, by omega, by decide⟩]
    · rw [e, if_neg (fun z => absurd z.2 (by decide)), if_neg (fun z => z.2.2 rfl)]
  · rw [if_neg (fun z => p z.1), if_neg (fun z => p z.1)]
/-- all that is given has been told sure or not -/
theorem SRR_b {A : Nat → Nat → Int} {c k : Nat} (R : RCA A U S c) (hk : k < S c) (W : U c (21 * k + 6) < (c : Int)) (hc : c ≤ 16) (N : ∀ g, gvn (U c) (S c) g → nd g = 1) (X : SRR U S ro nd c (A 116)) : 0 ≤ A 88 (12 * c + k) → 0 ≤ A 116 (A 88 (12 * c + k)).toNat ∧ A 116 (A 88 (12 * c + k)).toNat ≤ 1 := fun p => by
  rw [((R.2.1 k hk).1).2.2.2.2.2.2] at p ⊢
  have s1 := X (U c (21 * k + 6)).toNat (by omega) (N _ ⟨k, hk, by omega, by omega⟩)
  have s2 := sre_r (U := U) (S := S) (ro := ro) (j := (U c (21 * k + 6)).toNat)
  omega
end
theorem elem_sub {L' : List Nat} {q : Nat} (e : L'.elem q = false) : ∀ L : List Nat, L.all (fun p => L'.elem p) = true → L.elem q = false := by
  intro L
  induction L with
  | nil => intro _; rfl
  | cons p L ih =>
    intro h
    rw [List.all_cons, Bool.and_eq_true] at h
    refine elc.mpr ⟨fun z => ?_, ih h.2⟩
    subst z
    rw [e] at h
    exact absurd h.1 (by decide)
theorem ZE_up {L K L' K' : List Nat} {g h : av_H} (Z : ZE L K g h) (h1 : L.all (fun p => L'.elem p) = true) (h2 : K.all (fun p => K'.elem p) = true) : ZE L' K' g h := ZE_mo Z (fun _ e => elem_sub e L h1) (fun _ e => elem_sub e K h2)
section
variable {sc : av_Sr} {cd : List (Nat × av_E)} {Q : Option av_V → av_H → Prop} {pc p' : Nat} {lv : av_L} {r' : List av_V} {g h : av_H} {n a m : Int}
theorem xm_zs {q l : Nat} {x v : Int} (hx : cd.lookup pc = some (av_q (.bastore))) (hp : pc + 1 = p') (I : IMF n a m h) (F : FM g h) (hk : hK h q = (22, l)) (ha : q = 95 ∨ (109 ≤ q ∧ q ≤ 121)) (hi : 0 ≤ x ∧ x < l ∧ (l : Int) < 2147483648) (hv : v = 0 ∨ v = 1) (hw : ∀ h', IMF n a m h' → FM g h' → h' = hwA h q x.toNat v → av_wp sc cd p' lv r' h' Q) : av_wp sc cd pc lv (.inl v :: .inl x :: .inr (.inr (.inl (some q))) :: r') h Q :=
  wq_zs hx hp hk hi hv (hw _ ⟨IM_wA I.1 ha, I.2⟩ (FM_wA F (mA_in (by omega) (by omega))) rfl)
end
theorem BRR_no {t : T3} {h : av_H} {v : Int} (x : BRR t h) (e : hF h 77 50 = v) (z : v = 0) : t.2.2 = 9999 := by
  rcases x with y | y
  · exact y.1
  · have := y.2.1
    omega
theorem BRR_ye {t : T3} {h : av_H} {v : Int} (x : BRR t h) (e : hF h 77 50 = v) (z : v ≠ 0) : t.2.2 ≠ 9999 ∧ hF h 77 51 = t.1 ∧ hF h 77 52 = t.2.1 ∧ hF h 77 53 = t.2.2 := by
  rcases x with y | y
  · have := y.2
    omega
  · exact ⟨y.1, y.2.2.1, y.2.2.2.1, y.2.2.2.2⟩
theorem RCA_f {U : Nat → Nat → Int} {S : Nat → Nat} {c : Nat} {g h : av_H} (R : RCA (hA g) U S c) (F : FM g h) : RCA (hA h) U S c := by
  unfold RCA
  rw [F.2.2.2.2.2.2 81 rfl, F.2.2.2.2.2.2 82 rfl, F.2.2.2.2.2.2 83 rfl, F.2.2.2.2.2.2 84 rfl, F.2.2.2.2.2.2 85 rfl, F.2.2.2.2.2.2 86 rfl, F.2.2.2.2.2.2 87 rfl, F.2.2.2.2.2.2 88 rfl, F.2.2.2.2.2.2 89 rfl, F.2.2.2.2.2.2 90 rfl, F.2.2.2.2.2.2 91 rfl, F.2.2.2.2.2.2 92 rfl]
  exact R
theorem sre_v {U : Nat → Nat → Int} {S : Nat → Nat} {ro : Nat → Int} {j : Nat} {v : Int} (p : (v = 1 ∧ SRE (U j) ro (brv (U j) (srt U S ro j)) (S j)) ∨ (v = 0 ∧ ¬ SRE (U j) ro (brv (U j) (srt U S ro j)) (S j))) : v = sre U S ro j - 1 := by
  rcases p with p | p
  · rw [p.1, sre_y p.2]; rfl
  · rw [p.1, sre_n p.2]; rfl
end
section
/-! THE REFERENCE BRINGS A CASE, exactly -/
set_option maxRecDepth 100000 in
set_option maxHeartbeats 4000000 in
theorem cx_162 {h : av_H} (I : IM h) (c : Int) (qc : 0 ≤ c ∧ c < hA h 78 0) (SB : ∀ i : Nat, (i : Int) < hA h 81 (Int.toNat c) → 0 ≤ hA h 88 (12 * (c).toNat + i) → 0 ≤ hA h 116 (hA h 88 (12 * (c).toNat + i)).toNat ∧ hA h 116 (hA h 88 (12 * (c).toNat + i)).toNat ≤ 1) {Q : Option av_V → av_H → Prop} (hq : ∀ n h', IM h' → hF h' 77 27 = n → (hA h 81 (c).toNat = n ∧ BC (c).toNat (fun a => bmul a * (n).toNat) (hA h) h') → FM h h' → BBR (hA h) (c).toNat (n).toNat h' → ZE [96, 97, 98, 99, 100, 101, 102, 103, 104, 105, 106] [27] h h' → Q none h') : av_wp none cd_162 0 [some (.inr (.inr (.inl (some (77))))), some (.inl c), none, none, none] [] h Q := by
  have F := FM_rf h
  have gc := I.1.2.1.2.1
  refine av_wp_sqF ck_162 2 (pc' := 2) (lv' := [some (.inr (.inr (.inl (some (77))))), some (.inl c), none, none, none]) (st' := [.inr (.inr (.inl (some (77)))), .inr (.inr (.inl (some (77))))]) (h' := h) rfl ?_
  refine wq_gr (p' := 5) (ck_162 _ _ rfl) rfl (congrArg Prod.fst (ly_k I.1.1 77 rfl)) rfl (ly_g I.1.1 77 3 81 rfl) ?_
  refine av_wp_sqF ck_162 1 (pc' := 6) (lv' := [some (.inr (.inr (.inl (some (77))))), some (.inl c), none, none, none]) (st' := [.inl c, .inr (.inr (.inl (some (81)))), .inr (.inr (.inl (some (77))))]) (h' := h) rfl ?_
  obtain ⟨v1, e2⟩ : ∃ v, hA h 81 (Int.toNat (c)) = v := ⟨_, rfl⟩
  have g3 := im_many I.1 (Int.toNat (c))
  rw [e2] at g3
  refine wq_al (p' := 7) (n := 80) (ck_162 _ _ rfl) rfl (ly_k I.1.1 81 rfl) (by omega) (e2) ?_
  refine wq_pi (p' := 10) (ck_162 _ _ rfl) rfl (congrArg Prod.fst (ly_k I.1.1 77 rfl)) rfl ?_
  have I4 := IM_wF (f := 27) (v := v1) I (by omega)
  have F5 := FM_wF (o := 77) (f := 27) (v := v1) F rfl
  have e6 : hF (hwF h 77 27 v1) 77 27 = v1 := hF_self
  have ZB0 := ZE_f (L := [96, 97, 98, 99, 100, 101, 102, 103, 104, 105, 106]) (K := [27]) (f := 27) (v := v1) (ZE_rf h) rfl rfl
  generalize hwF h 77 27 v1 = h7 at I4 F5 e6 ZB0 ⊢
  have B8 : BC (c).toNat (fun a => bmul a * ((0 : Int)).toNat) (hA h) h7 := fun a _ _ i hi => absurd hi (by show ¬ i < bmul a * 0; omega)
  refine av_wp_sqF ck_162 2 (pc' := 12) (lv' := [some (.inr (.inr (.inl (some (77))))), some (.inl c), some (.inl (0)), none, none]) (st' := []) (h' := h7) rfl ?_
  have L20 : ∀ (m19 : Nat) (k9 : Int) (a10 : Option av_V) (a11 : Option av_V) (h12 : av_H), av_lg a10 = false → av_lg a11 = false → k9 ≤ v1 → (0 ≤ k9 ∧ k9 ≤ 12) → IM h12 → hF h12 77 27 = v1 → BC (c).toNat (fun a => bmul a * (Int.toNat (k9))) (hA h) h12 → FM h h12 → ZE [96, 97, 98, 99, 100, 101, 102, 103, 104, 105, 106] [27] h h12 → BBR (hA h) (c).toNat (Int.toNat (k9)) h12 → (12 - k9).toNat = m19 → av_wp none cd_162 12 [some (.inr (.inr (.inl (some (77))))), some (.inl c), some (.inl k9), a10, a11] [] h12 Q := by
    intro m19
    induction m19 using Nat.strongRecOn with
    | _ m19 I21 =>
      intro k9 a10 a11 h12 g23 g24 g25 g26 Y13 e16 B15 F14 Z17 B18 e22
      have la10 := g23
      have la11 := g24
      refine av_wp_sqF ck_162 2 (pc' := 14) (lv' := [some (.inr (.inr (.inl (some (77))))), some (.inl c), some (.inl k9), a10, a11]) (st' := [.inr (.inr (.inl (some (77)))), .inl k9]) (h' := h12) rfl ?_
      refine wq_gi (p' := 17) (ck_162 _ _ rfl) rfl (congrArg Prod.fst (ly_k Y13.1.1 77 rfl)) rfl (e16) ?_
      refine wq_k2 (p' := 20) (ck_162 _ _ rfl) rfl ⟨by omega, by omega⟩ ⟨by omega, by omega⟩ (fun c27 => ?_) (fun c28 => ?_)
      · have c27 : v1 ≤ k9 := c27
        refine av_wp_ret (v := none) (ck_162 _ _ rfl) rfl rfl ?_
        exact hq v1 h12 Y13 e16 ⟨e2, BC_le B15 (fun a _ _ => Nat.mul_le_mul_left _ (by omega))⟩ F14 (BBR_e B18 (by omega)) Z17
      · have c28 : k9 < v1 := c28
        have Y29 := IMY_of Y13 e16 (Int.toNat (k9))
        generalize hA h12 96 (Int.toNat (k9)) = x30 at Y29
        generalize hA h12 100 (Int.toNat (k9)) = y31 at Y29
        refine av_wp_sqF ck_162 7 (pc' := 28) (lv' := [some (.inr (.inr (.inl (some (77))))), some (.inl c), some (.inl k9), some (.inl (((12) * c) + k9)), a11]) (st' := [.inr (.inr (.inl (some (77))))]) (h' := h12) rfl ?_
        refine wq_gr (p' := 31) (ck_162 _ _ rfl) rfl (congrArg Prod.fst (ly_k Y29.1.1 77 rfl)) rfl (ly_g Y29.1.1 77 30 96 rfl) ?_
        refine av_wp_sqF ck_162 2 (pc' := 33) (lv' := [some (.inr (.inr (.inl (some (77))))), some (.inl c), some (.inl k9), some (.inl (((12) * c) + k9)), a11]) (st' := [.inr (.inr (.inl (some (77)))), .inl k9, .inr (.inr (.inl (some (96))))]) (h' := h12) rfl ?_
        refine wq_gr (p' := 36) (ck_162 _ _ rfl) rfl (congrArg Prod.fst (ly_k Y29.1.1 77 rfl)) rfl (ly_g Y29.1.1 77 4 82 rfl) ?_
        refine av_wp_sqF ck_162 1 (pc' := 37) (lv' := [some (.inr (.inr (.inl (some (77))))), some (.inl c), some (.inl k9), some (.inl (((12) * c) + k9)), a11]) (st' := [.inl (((12) * c) + k9), .inr (.inr (.inl (some (82)))), .inl k9, .inr (.inr (.inl (some (96))))]) (h' := h12) rfl ?_
        obtain ⟨v34, e35⟩ : ∃ v, hA h12 82 (Int.toNat ((((12) * c) + k9))) = v := ⟨_, rfl⟩
        have g36 : 0 ≤ hA h12 82 (Int.toNat ((((12) * c) + k9))) ∧ hA h12 82 (Int.toNat ((((12) * c) + k9))) ≤ 7 := im_m Y29.1 82 (by decide) (by decide) _
        rw [e35] at g36
        refine wq_al (p' := 38) (n := 960) (ck_162 _ _ rfl) rfl (ly_k Y29.1.1 82 rfl) (by omega) (e35) ?_
        have u37 : hA h 82 (Int.toNat ((((12) * c) + k9))) = v34 := by rw [← F14.2.2.2.2.2.2 82 rfl]; exact e35
        refine wq_as (p' := 39) (n := 12) (ck_162 _ _ rfl) rfl (ly_k Y29.1.1 96 rfl) (by omega) ?_
        have Y39 := IMY_w (a := 96) (j := (Int.toNat (k9))) (v := v34) Y29 (by omega) (show (0 : Int) ≤ v34 ∧ v34 ≤ (7 : Int) by omega) (fun z => by rfl)
        have Y39 : IMY v1 (Int.toNat (k9)) v34 y31 (hwA h12 96 (Int.toNat (k9)) v34) := Y39
        have F40 := FM_wA (a := 96) (j := (Int.toNat (k9))) (v := v34) F14 rfl
        have B41 := BC_w (a := 96) (j := (Int.toNat (k9))) (v := v34) B15 (show (Int.toNat (k9)) = (1 * (Int.toNat (k9))) by omega) (by show hA h 82 (1 * (12 * (c).toNat) + (1 * (Int.toNat (k9)))) = _; rw [show 1 * (12 * (c).toNat) + (1 * (Int.toNat (k9))) = (Int.toNat ((((12) * c) + k9))) by omega, ← F14.2.2.2.2.2.2 82 rfl]; exact e35)
        have B41 : BC (c).toNat (av_u1 (fun a => bmul a * (Int.toNat (k9))) 96 ((1 * (Int.toNat (k9))) + 1)) (hA h) (hwA h12 96 (Int.toNat (k9)) v34) := B41
        have Z42 := ZE_a (q := 96) (i := (Int.toNat (k9))) (v := v34) Z17 rfl rfl
        have B43 := BBR_n (q := 96) (j := (Int.toNat (k9))) (v := v34) B18 (by decide)
        generalize hwA h12 96 (Int.toNat (k9)) v34 = h38 at Y39 F40 B41 Z42 B43 ⊢
        refine av_wp_sqF ck_162 1 (pc' := 40) (lv' := [some (.inr (.inr (.inl (some (77))))), some (.inl c), some (.inl k9), some (.inl (((12) * c) + k9)), a11]) (st' := [.inr (.inr (.inl (some (77))))]) (h' := h38) rfl ?_
        refine wq_gr (p' := 43) (ck_162 _ _ rfl) rfl (congrArg Prod.fst (ly_k Y39.1.1 77 rfl)) rfl (ly_g Y39.1.1 77 31 97 rfl) ?_
        refine av_wp_sqF ck_162 2 (pc' := 45) (lv' := [some (.inr (.inr (.inl (some (77))))), some (.inl c), some (.inl k9), some (.inl (((12) * c) + k9)), a11]) (st' := [.inr (.inr (.inl (some (77)))), .inl k9, .inr (.inr (.inl (some (97))))]) (h' := h38) rfl ?_
        refine wq_gr (p' := 48) (ck_162 _ _ rfl) rfl (congrArg Prod.fst (ly_k Y39.1.1 77 rfl)) rfl (ly_g Y39.1.1 77 8 86 rfl) ?_
        refine av_wp_sqF ck_162 1 (pc' := 49) (lv' := [some (.inr (.inr (.inl (some (77))))), some (.inl c), some (.inl k9), some (.inl (((12) * c) + k9)), a11]) (st' := [.inl (((12) * c) + k9), .inr (.inr (.inl (some (86)))), .inl k9, .inr (.inr (.inl (some (97))))]) (h' := h38) rfl ?_
        obtain ⟨v44, e45⟩ : ∃ v, hA h38 86 (Int.toNat ((((12) * c) + k9))) = v := ⟨_, rfl⟩
        have g46 : 0 ≤ hA h38 86 (Int.toNat ((((12) * c) + k9))) ∧ hA h38 86 (Int.toNat ((((12) * c) + k9))) ≤ 3 := im_m Y39.1 86 (by decide) (by decide) _
        rw [e45] at g46
        refine wq_al (p' := 50) (n := 960) (ck_162 _ _ rfl) rfl (ly_k Y39.1.1 86 rfl) (by omega) (e45) ?_
        refine wq_as (p' := 51) (n := 12) (ck_162 _ _ rfl) rfl (ly_k Y39.1.1 97 rfl) (by omega) ?_
        have Y48 := IMY_w (a := 97) (j := (Int.toNat (k9))) (v := v44) Y39 (by omega) (show (0 : Int) ≤ v44 ∧ v44 ≤ (3 : Int) by omega) (fun z => by omega)
        have Y48 : IMY v1 (Int.toNat (k9)) v34 y31 (hwA h38 97 (Int.toNat (k9)) v44) := Y48
        have F49 := FM_wA (a := 97) (j := (Int.toNat (k9))) (v := v44) F40 rfl
        have B50 := BC_w (a := 97) (j := (Int.toNat (k9))) (v := v44) B41 (show (Int.toNat (k9)) = (1 * (Int.toNat (k9))) by omega) (by show hA h 86 (1 * (12 * (c).toNat) + (1 * (Int.toNat (k9)))) = _; rw [show 1 * (12 * (c).toNat) + (1 * (Int.toNat (k9))) = (Int.toNat ((((12) * c) + k9))) by omega, ← F40.2.2.2.2.2.2 86 rfl]; exact e45)
        have B50 : BC (c).toNat (av_u1 (av_u1 (fun a => bmul a * (Int.toNat (k9))) 96 ((1 * (Int.toNat (k9))) + 1)) 97 ((1 * (Int.toNat (k9))) + 1)) (hA h) (hwA h38 97 (Int.toNat (k9)) v44) := B50
        have Z51 := ZE_a (q := 97) (i := (Int.toNat (k9))) (v := v44) Z42 rfl rfl
        have B52 := BBR_n (q := 97) (j := (Int.toNat (k9))) (v := v44) B43 (by decide)
        generalize hwA h38 97 (Int.toNat (k9)) v44 = h47 at Y48 F49 B50 Z51 B52 ⊢
        refine av_wp_sqF ck_162 1 (pc' := 52) (lv' := [some (.inr (.inr (.inl (some (77))))), some (.inl c), some (.inl k9), some (.inl (((12) * c) + k9)), a11]) (st' := [.inr (.inr (.inl (some (77))))]) (h' := h47) rfl ?_
        refine wq_gr (p' := 55) (ck_162 _ _ rfl) rfl (congrArg Prod.fst (ly_k Y48.1.1 77 rfl)) rfl (ly_g Y48.1.1 77 32 98 rfl) ?_
        refine av_wp_sqF ck_162 2 (pc' := 57) (lv' := [some (.inr (.inr (.inl (some (77))))), some (.inl c), some (.inl k9), some (.inl (((12) * c) + k9)), a11]) (st' := [.inr (.inr (.inl (some (77)))), .inl k9, .inr (.inr (.inl (some (98))))]) (h' := h47) rfl ?_
        refine wq_gr (p' := 60) (ck_162 _ _ rfl) rfl (congrArg Prod.fst (ly_k Y48.1.1 77 rfl)) rfl (ly_g Y48.1.1 77 11 89 rfl) ?_
        refine av_wp_sqF ck_162 1 (pc' := 61) (lv' := [some (.inr (.inr (.inl (some (77))))), some (.inl c), some (.inl k9), some (.inl (((12) * c) + k9)), a11]) (st' := [.inl (((12) * c) + k9), .inr (.inr (.inl (some (89)))), .inl k9, .inr (.inr (.inl (some (98))))]) (h' := h47) rfl ?_
        obtain ⟨v53, e54⟩ : ∃ v, hA h47 89 (Int.toNat ((((12) * c) + k9))) = v := ⟨_, rfl⟩
        have g55 : 0 ≤ hA h47 89 (Int.toNat ((((12) * c) + k9))) ∧ hA h47 89 (Int.toNat ((((12) * c) + k9))) ≤ 1 := im_m Y48.1 89 (by decide) (by decide) _
        rw [e54] at g55
        refine wq_al (p' := 62) (n := 960) (ck_162 _ _ rfl) rfl (ly_k Y48.1.1 89 rfl) (by omega) (e54) ?_
        refine wq_as (p' := 63) (n := 12) (ck_162 _ _ rfl) rfl (ly_k Y48.1.1 98 rfl) (by omega) ?_
        have Y57 := IMY_w (a := 98) (j := (Int.toNat (k9))) (v := v53) Y48 (by omega) (show (0 : Int) ≤ v53 ∧ v53 ≤ (2 : Int) by omega) (fun z => by omega)
        have Y57 : IMY v1 (Int.toNat (k9)) v34 y31 (hwA h47 98 (Int.toNat (k9)) v53) := Y57
        have F58 := FM_wA (a := 98) (j := (Int.toNat (k9))) (v := v53) F49 rfl
        have B59 := BC_w (a := 98) (j := (Int.toNat (k9))) (v := v53) B50 (show (Int.toNat (k9)) = (1 * (Int.toNat (k9))) by omega) (by show hA h 89 (1 * (12 * (c).toNat) + (1 * (Int.toNat (k9)))) = _; rw [show 1 * (12 * (c).toNat) + (1 * (Int.toNat (k9))) = (Int.toNat ((((12) * c) + k9))) by omega, ← F49.2.2.2.2.2.2 89 rfl]; exact e54)
        have B59 : BC (c).toNat (av_u1 (av_u1 (av_u1 (fun a => bmul a * (Int.toNat (k9))) 96 ((1 * (Int.toNat (k9))) + 1)) 97 ((1 * (Int.toNat (k9))) + 1)) 98 ((1 * (Int.toNat (k9))) + 1)) (hA h) (hwA h47 98 (Int.toNat (k9)) v53) := B59
        have Z60 := ZE_a (q := 98) (i := (Int.toNat (k9))) (v := v53) Z51 rfl rfl
        have B61 := BBR_n (q := 98) (j := (Int.toNat (k9))) (v := v53) B52 (by decide)
        generalize hwA h47 98 (Int.toNat (k9)) v53 = h56 at Y57 F58 B59 Z60 B61 ⊢
        refine av_wp_sqF ck_162 1 (pc' := 64) (lv' := [some (.inr (.inr (.inl (some (77))))), some (.inl c), some (.inl k9), some (.inl (((12) * c) + k9)), a11]) (st' := [.inr (.inr (.inl (some (77))))]) (h' := h56) rfl ?_
        refine wq_gr (p' := 67) (ck_162 _ _ rfl) rfl (congrArg Prod.fst (ly_k Y57.1.1 77 rfl)) rfl (ly_g Y57.1.1 77 33 99 rfl) ?_
        refine av_wp_sqF ck_162 2 (pc' := 69) (lv' := [some (.inr (.inr (.inl (some (77))))), some (.inl c), some (.inl k9), some (.inl (((12) * c) + k9)), a11]) (st' := [.inr (.inr (.inl (some (77)))), .inl k9, .inr (.inr (.inl (some (99))))]) (h' := h56) rfl ?_
        refine wq_gr (p' := 72) (ck_162 _ _ rfl) rfl (congrArg Prod.fst (ly_k Y57.1.1 77 rfl)) rfl (ly_g Y57.1.1 77 9 87 rfl) ?_
        refine av_wp_sqF ck_162 1 (pc' := 73) (lv' := [some (.inr (.inr (.inl (some (77))))), some (.inl c), some (.inl k9), some (.inl (((12) * c) + k9)), a11]) (st' := [.inl (((12) * c) + k9), .inr (.inr (.inl (some (87)))), .inl k9, .inr (.inr (.inl (some (99))))]) (h' := h56) rfl ?_
        obtain ⟨v62, e63⟩ : ∃ v, hA h56 87 (Int.toNat ((((12) * c) + k9))) = v := ⟨_, rfl⟩
        have g64 : -1 ≤ hA h56 87 (Int.toNat ((((12) * c) + k9))) ∧ hA h56 87 (Int.toNat ((((12) * c) + k9))) ≤ 1999 := im_m Y57.1 87 (by decide) (by decide) _
        rw [e63] at g64
        refine wq_al (p' := 74) (n := 960) (ck_162 _ _ rfl) rfl (ly_k Y57.1.1 87 rfl) (by omega) (e63) ?_
        refine wq_as (p' := 75) (n := 12) (ck_162 _ _ rfl) rfl (ly_k Y57.1.1 99 rfl) (by omega) ?_
        have Y66 := IMY_w (a := 99) (j := (Int.toNat (k9))) (v := v62) Y57 (by omega) (show (-1 : Int) ≤ v62 ∧ v62 ≤ (1999 : Int) by omega) (fun z => by omega)
        have Y66 : IMY v1 (Int.toNat (k9)) v34 y31 (hwA h56 99 (Int.toNat (k9)) v62) := Y66
        have F67 := FM_wA (a := 99) (j := (Int.toNat (k9))) (v := v62) F58 rfl
        have B68 := BC_w (a := 99) (j := (Int.toNat (k9))) (v := v62) B59 (show (Int.toNat (k9)) = (1 * (Int.toNat (k9))) by omega) (by show hA h 87 (1 * (12 * (c).toNat) + (1 * (Int.toNat (k9)))) = _; rw [show 1 * (12 * (c).toNat) + (1 * (Int.toNat (k9))) = (Int.toNat ((((12) * c) + k9))) by omega, ← F58.2.2.2.2.2.2 87 rfl]; exact e63)
        have B68 : BC (c).toNat (av_u1 (av_u1 (av_u1 (av_u1 (fun a => bmul a * (Int.toNat (k9))) 96 ((1 * (Int.toNat (k9))) + 1)) 97 ((1 * (Int.toNat (k9))) + 1)) 98 ((1 * (Int.toNat (k9))) + 1)) 99 ((1 * (Int.toNat (k9))) + 1)) (hA h) (hwA h56 99 (Int.toNat (k9)) v62) := B68
        have Z69 := ZE_a (q := 99) (i := (Int.toNat (k9))) (v := v62) Z60 rfl rfl
        have B70 := BBR_n (q := 99) (j := (Int.toNat (k9))) (v := v62) B61 (by decide)
        generalize hwA h56 99 (Int.toNat (k9)) v62 = h65 at Y66 F67 B68 Z69 B70 ⊢
        refine av_wp_sqF ck_162 1 (pc' := 76) (lv' := [some (.inr (.inr (.inl (some (77))))), some (.inl c), some (.inl k9), some (.inl (((12) * c) + k9)), a11]) (st' := [.inr (.inr (.inl (some (77))))]) (h' := h65) rfl ?_
        refine wq_gr (p' := 79) (ck_162 _ _ rfl) rfl (congrArg Prod.fst (ly_k Y66.1.1 77 rfl)) rfl (ly_g Y66.1.1 77 34 100 rfl) ?_
        refine av_wp_sqF ck_162 2 (pc' := 81) (lv' := [some (.inr (.inr (.inl (some (77))))), some (.inl c), some (.inl k9), some (.inl (((12) * c) + k9)), a11]) (st' := [.inr (.inr (.inl (some (77)))), .inl k9, .inr (.inr (.inl (some (100))))]) (h' := h65) rfl ?_
        refine wq_gr (p' := 84) (ck_162 _ _ rfl) rfl (congrArg Prod.fst (ly_k Y66.1.1 77 rfl)) rfl (ly_g Y66.1.1 77 7 85 rfl) ?_
        refine av_wp_sqF ck_162 1 (pc' := 85) (lv' := [some (.inr (.inr (.inl (some (77))))), some (.inl c), some (.inl k9), some (.inl (((12) * c) + k9)), a11]) (st' := [.inl (((12) * c) + k9), .inr (.inr (.inl (some (85)))), .inl k9, .inr (.inr (.inl (some (100))))]) (h' := h65) rfl ?_
        obtain ⟨v71, e72⟩ : ∃ v, hA h65 85 (Int.toNat ((((12) * c) + k9))) = v := ⟨_, rfl⟩
        have g73 : -1 ≤ hA h65 85 (Int.toNat ((((12) * c) + k9))) ∧ hA h65 85 (Int.toNat ((((12) * c) + k9))) ≤ 11 := im_m Y66.1 85 (by decide) (by decide) _
        rw [e72] at g73
        refine wq_al (p' := 86) (n := 960) (ck_162 _ _ rfl) rfl (ly_k Y66.1.1 85 rfl) (by omega) (e72) ?_
        have u74 : hA h 85 (Int.toNat ((((12) * c) + k9))) = v71 := by rw [← F67.2.2.2.2.2.2 85 rfl]; exact e72
        refine wq_as (p' := 87) (n := 12) (ck_162 _ _ rfl) rfl (ly_k Y66.1.1 100 rfl) (by omega) ?_
        have Y76 := IMY_w (a := 100) (j := (Int.toNat (k9))) (v := v71) Y66 (by omega) (show (-1 : Int) ≤ v71 ∧ v71 ≤ (11 : Int) by omega) (fun z => by rfl)
        have Y76 : IMY v1 (Int.toNat (k9)) v34 v71 (hwA h65 100 (Int.toNat (k9)) v71) := Y76
        have F77 := FM_wA (a := 100) (j := (Int.toNat (k9))) (v := v71) F67 rfl
        have B78 := BC_w (a := 100) (j := (Int.toNat (k9))) (v := v71) B68 (show (Int.toNat (k9)) = (1 * (Int.toNat (k9))) by omega) (by show hA h 85 (1 * (12 * (c).toNat) + (1 * (Int.toNat (k9)))) = _; rw [show 1 * (12 * (c).toNat) + (1 * (Int.toNat (k9))) = (Int.toNat ((((12) * c) + k9))) by omega, ← F67.2.2.2.2.2.2 85 rfl]; exact e72)
        have B78 : BC (c).toNat (av_u1 (av_u1 (av_u1 (av_u1 (av_u1 (fun a => bmul a * (Int.toNat (k9))) 96 ((1 * (Int.toNat (k9))) + 1)) 97 ((1 * (Int.toNat (k9))) + 1)) 98 ((1 * (Int.toNat (k9))) + 1)) 99 ((1 * (Int.toNat (k9))) + 1)) 100 ((1 * (Int.toNat (k9))) + 1)) (hA h) (hwA h65 100 (Int.toNat (k9)) v71) := B78
        have Z79 := ZE_a (q := 100) (i := (Int.toNat (k9))) (v := v71) Z69 rfl rfl
        have B80 := BBR_n (q := 100) (j := (Int.toNat (k9))) (v := v71) B70 (by decide)
        generalize hwA h65 100 (Int.toNat (k9)) v71 = h75 at Y76 F77 B78 Z79 B80 ⊢
        refine av_wp_sqF ck_162 1 (pc' := 88) (lv' := [some (.inr (.inr (.inl (some (77))))), some (.inl c), some (.inl k9), some (.inl (((12) * c) + k9)), a11]) (st' := [.inr (.inr (.inl (some (77))))]) (h' := h75) rfl ?_
        refine wq_gr (p' := 91) (ck_162 _ _ rfl) rfl (congrArg Prod.fst (ly_k Y76.1.1 77 rfl)) rfl (ly_g Y76.1.1 77 35 101 rfl) ?_
        refine av_wp_sqF ck_162 2 (pc' := 93) (lv' := [some (.inr (.inr (.inl (some (77))))), some (.inl c), some (.inl k9), some (.inl (((12) * c) + k9)), a11]) (st' := [.inr (.inr (.inl (some (77)))), .inl k9, .inr (.inr (.inl (some (101))))]) (h' := h75) rfl ?_
        refine wq_gr (p' := 96) (ck_162 _ _ rfl) rfl (congrArg Prod.fst (ly_k Y76.1.1 77 rfl)) rfl (ly_g Y76.1.1 77 5 83 rfl) ?_
        refine av_wp_sqF ck_162 1 (pc' := 97) (lv' := [some (.inr (.inr (.inl (some (77))))), some (.inl c), some (.inl k9), some (.inl (((12) * c) + k9)), a11]) (st' := [.inl (((12) * c) + k9), .inr (.inr (.inl (some (83)))), .inl k9, .inr (.inr (.inl (some (101))))]) (h' := h75) rfl ?_
        obtain ⟨v81, e82⟩ : ∃ v, hA h75 83 (Int.toNat ((((12) * c) + k9))) = v := ⟨_, rfl⟩
        have g83 : 0 ≤ hA h75 83 (Int.toNat ((((12) * c) + k9))) ∧ hA h75 83 (Int.toNat ((((12) * c) + k9))) ≤ 2 := im_m Y76.1 83 (by decide) (by decide) _
        rw [e82] at g83
        refine wq_al (p' := 98) (n := 960) (ck_162 _ _ rfl) rfl (ly_k Y76.1.1 83 rfl) (by omega) (e82) ?_
        refine wq_as (p' := 99) (n := 12) (ck_162 _ _ rfl) rfl (ly_k Y76.1.1 101 rfl) (by omega) ?_
        have Y85 := IMY_w (a := 101) (j := (Int.toNat (k9))) (v := v81) Y76 (by omega) (show (0 : Int) ≤ v81 ∧ v81 ≤ (2 : Int) by omega) (fun z => by omega)
        have Y85 : IMY v1 (Int.toNat (k9)) v34 v71 (hwA h75 101 (Int.toNat (k9)) v81) := Y85
        have F86 := FM_wA (a := 101) (j := (Int.toNat (k9))) (v := v81) F77 rfl
        have B87 := BC_w (a := 101) (j := (Int.toNat (k9))) (v := v81) B78 (show (Int.toNat (k9)) = (1 * (Int.toNat (k9))) by omega) (by show hA h 83 (1 * (12 * (c).toNat) + (1 * (Int.toNat (k9)))) = _; rw [show 1 * (12 * (c).toNat) + (1 * (Int.toNat (k9))) = (Int.toNat ((((12) * c) + k9))) by omega, ← F77.2.2.2.2.2.2 83 rfl]; exact e82)
        have B87 : BC (c).toNat (av_u1 (av_u1 (av_u1 (av_u1 (av_u1 (av_u1 (fun a => bmul a * (Int.toNat (k9))) 96 ((1 * (Int.toNat (k9))) + 1)) 97 ((1 * (Int.toNat (k9))) + 1)) 98 ((1 * (Int.toNat (k9))) + 1)) 99 ((1 * (Int.toNat (k9))) + 1)) 100 ((1 * (Int.toNat (k9))) + 1)) 101 ((1 * (Int.toNat (k9))) + 1)) (hA h) (hwA h75 101 (Int.toNat (k9)) v81) := B87
        have Z88 := ZE_a (q := 101) (i := (Int.toNat (k9))) (v := v81) Z79 rfl rfl
        have B89 := BBR_n (q := 101) (j := (Int.toNat (k9))) (v := v81) B80 (by decide)
        generalize hwA h75 101 (Int.toNat (k9)) v81 = h84 at Y85 F86 B87 Z88 B89 ⊢
        refine av_wp_sqF ck_162 1 (pc' := 100) (lv' := [some (.inr (.inr (.inl (some (77))))), some (.inl c), some (.inl k9), some (.inl (((12) * c) + k9)), a11]) (st' := [.inr (.inr (.inl (some (77))))]) (h' := h84) rfl ?_
        refine wq_gr (p' := 103) (ck_162 _ _ rfl) rfl (congrArg Prod.fst (ly_k Y85.1.1 77 rfl)) rfl (ly_g Y85.1.1 77 36 102 rfl) ?_
        refine av_wp_sqF ck_162 2 (pc' := 105) (lv' := [some (.inr (.inr (.inl (some (77))))), some (.inl c), some (.inl k9), some (.inl (((12) * c) + k9)), a11]) (st' := [.inr (.inr (.inl (some (77)))), .inl k9, .inr (.inr (.inl (some (102))))]) (h' := h84) rfl ?_
        refine wq_gr (p' := 108) (ck_162 _ _ rfl) rfl (congrArg Prod.fst (ly_k Y85.1.1 77 rfl)) rfl (ly_g Y85.1.1 77 6 84 rfl) ?_
        refine av_wp_sqF ck_162 1 (pc' := 109) (lv' := [some (.inr (.inr (.inl (some (77))))), some (.inl c), some (.inl k9), some (.inl (((12) * c) + k9)), a11]) (st' := [.inl (((12) * c) + k9), .inr (.inr (.inl (some (84)))), .inl k9, .inr (.inr (.inl (some (102))))]) (h' := h84) rfl ?_
        obtain ⟨v90, e91⟩ : ∃ v, hA h84 84 (Int.toNat ((((12) * c) + k9))) = v := ⟨_, rfl⟩
        have g92 : -1 ≤ hA h84 84 (Int.toNat ((((12) * c) + k9))) ∧ hA h84 84 (Int.toNat ((((12) * c) + k9))) ≤ 2 := im_m Y85.1 84 (by decide) (by decide) _
        rw [e91] at g92
        refine wq_al (p' := 110) (n := 960) (ck_162 _ _ rfl) rfl (ly_k Y85.1.1 84 rfl) (by omega) (e91) ?_
        refine wq_as (p' := 111) (n := 12) (ck_162 _ _ rfl) rfl (ly_k Y85.1.1 102 rfl) (by omega) ?_
        have Y94 := IMY_w (a := 102) (j := (Int.toNat (k9))) (v := v90) Y85 (by omega) (show (-1 : Int) ≤ v90 ∧ v90 ≤ (2 : Int) by omega) (fun z => by omega)
        have Y94 : IMY v1 (Int.toNat (k9)) v34 v71 (hwA h84 102 (Int.toNat (k9)) v90) := Y94
        have F95 := FM_wA (a := 102) (j := (Int.toNat (k9))) (v := v90) F86 rfl
        have B96 := BC_w (a := 102) (j := (Int.toNat (k9))) (v := v90) B87 (show (Int.toNat (k9)) = (1 * (Int.toNat (k9))) by omega) (by show hA h 84 (1 * (12 * (c).toNat) + (1 * (Int.toNat (k9)))) = _; rw [show 1 * (12 * (c).toNat) + (1 * (Int.toNat (k9))) = (Int.toNat ((((12) * c) + k9))) by omega, ← F86.2.2.2.2.2.2 84 rfl]; exact e91)
        have B96 : BC (c).toNat (av_u1 (av_u1 (av_u1 (av_u1 (av_u1 (av_u1 (av_u1 (fun a => bmul a * (Int.toNat (k9))) 96 ((1 * (Int.toNat (k9))) + 1)) 97 ((1 * (Int.toNat (k9))) + 1)) 98 ((1 * (Int.toNat (k9))) + 1)) 99 ((1 * (Int.toNat (k9))) + 1)) 100 ((1 * (Int.toNat (k9))) + 1)) 101 ((1 * (Int.toNat (k9))) + 1)) 102 ((1 * (Int.toNat (k9))) + 1)) (hA h) (hwA h84 102 (Int.toNat (k9)) v90) := B96
        have Z97 := ZE_a (q := 102) (i := (Int.toNat (k9))) (v := v90) Z88 rfl rfl
        have B98 := BBR_n (q := 102) (j := (Int.toNat (k9))) (v := v90) B89 (by decide)
        generalize hwA h84 102 (Int.toNat (k9)) v90 = h93 at Y94 F95 B96 Z97 B98 ⊢
        refine av_wp_sqF ck_162 1 (pc' := 112) (lv' := [some (.inr (.inr (.inl (some (77))))), some (.inl c), some (.inl k9), some (.inl (((12) * c) + k9)), a11]) (st' := [.inr (.inr (.inl (some (77))))]) (h' := h93) rfl ?_
        refine wq_gr (p' := 115) (ck_162 _ _ rfl) rfl (congrArg Prod.fst (ly_k Y94.1.1 77 rfl)) rfl (ly_g Y94.1.1 77 37 103 rfl) ?_
        refine av_wp_sqF ck_162 2 (pc' := 117) (lv' := [some (.inr (.inr (.inl (some (77))))), some (.inl c), some (.inl k9), some (.inl (((12) * c) + k9)), a11]) (st' := [.inr (.inr (.inl (some (77)))), .inl k9, .inr (.inr (.inl (some (103))))]) (h' := h93) rfl ?_
        refine wq_gr (p' := 120) (ck_162 _ _ rfl) rfl (congrArg Prod.fst (ly_k Y94.1.1 77 rfl)) rfl (ly_g Y94.1.1 77 10 88 rfl) ?_
        refine av_wp_sqF ck_162 1 (pc' := 121) (lv' := [some (.inr (.inr (.inl (some (77))))), some (.inl c), some (.inl k9), some (.inl (((12) * c) + k9)), a11]) (st' := [.inl (((12) * c) + k9), .inr (.inr (.inl (some (88)))), .inl k9, .inr (.inr (.inl (some (103))))]) (h' := h93) rfl ?_
        obtain ⟨v99, e100⟩ : ∃ v, hA h93 88 (Int.toNat ((((12) * c) + k9))) = v := ⟨_, rfl⟩
        have g101 : -1 ≤ hA h93 88 (Int.toNat ((((12) * c) + k9))) ∧ hA h93 88 (Int.toNat ((((12) * c) + k9))) ≤ 15 := im_m Y94.1 88 (by decide) (by decide) _
        rw [e100] at g101
        have y102 : hA h 88 (12 * (c).toNat + (Int.toNat (k9))) = v99 := by rw [show 12 * (c).toNat + (Int.toNat (k9)) = (Int.toNat ((((12) * c) + k9))) by omega, ← Z97.1 88 rfl]; exact e100
        refine wq_al (p' := 122) (n := 960) (ck_162 _ _ rfl) rfl (ly_k Y94.1.1 88 rfl) (by omega) (e100) ?_
        have J106 : ∀ (j103 : Int), (0 ≤ j103 ∧ j103 ≤ 1) → j103 = bbr (hA h) (c).toNat (Int.toNat (k9)) →  av_wp none cd_162 144 [some (.inr (.inr (.inl (some (77))))), some (.inl c), some (.inl k9), some (.inl (((12) * c) + k9)), a11] [.inl j103, .inl k9, .inr (.inr (.inl (some (103))))] h93 Q := by
          intro j103 g104 g105
          refine wq_zs (p' := 145) (n := 12) (ck_162 _ _ rfl) rfl (ly_k Y94.1.1 103 rfl) (by omega) (by omega) ?_
          have Y108 := IMY_w (a := 103) (j := (Int.toNat (k9))) (v := j103) Y94 (by omega) (show (0 : Int) ≤ j103 ∧ j103 ≤ (1 : Int) by omega) (fun z => by omega)
          have Y108 : IMY v1 (Int.toNat (k9)) v34 v71 (hwA h93 103 (Int.toNat (k9)) j103) := Y108
          have F109 := FM_wA (a := 103) (j := (Int.toNat (k9))) (v := j103) F95 rfl
          have B110 := BC_o (j := (Int.toNat (k9))) (v := j103) B96 (by show 0 * (Int.toNat (k9)) = 0; omega)
          have Z111 := ZE_a (q := 103) (i := (Int.toNat (k9))) (v := j103) Z97 rfl rfl
          have B112 := BBR_s (j := (Int.toNat (k9))) (v := j103) B98 rfl g105
          generalize hwA h93 103 (Int.toNat (k9)) j103 = h107 at Y108 F109 B110 Z111 B112 ⊢
          refine av_wp_sqF ck_162 2 (pc' := 148) (lv' := [some (.inr (.inr (.inl (some (77))))), some (.inl c), some (.inl k9), some (.inl (((12) * c) + k9)), some (.inl (0))]) (st' := []) (h' := h107) rfl ?_
          have L121 : ∀ (m120 : Nat) (k113 : Int) (h114 : av_H), (0 ≤ k113 ∧ k113 ≤ 5) → IMY v1 (Int.toNat (k9)) v34 v71 h114 → BC (c).toNat (av_u1 (av_u1 (av_u1 (av_u1 (av_u1 (av_u1 (av_u1 (av_u1 (fun a => bmul a * (Int.toNat (k9))) 96 ((1 * (Int.toNat (k9))) + 1)) 97 ((1 * (Int.toNat (k9))) + 1)) 98 ((1 * (Int.toNat (k9))) + 1)) 99 ((1 * (Int.toNat (k9))) + 1)) 100 ((1 * (Int.toNat (k9))) + 1)) 101 ((1 * (Int.toNat (k9))) + 1)) 102 ((1 * (Int.toNat (k9))) + 1)) 104 (5 * (Int.toNat (k9)) + (Int.toNat (k113)))) (hA h) h114 → FM h h114 → ZE [96, 97, 98, 99, 100, 101, 102, 103, 104, 105, 106] [27] h h114 → BBR (hA h) (c).toNat ((Int.toNat (k9)) + 1) h114 → (5 - k113).toNat = m120 → av_wp none cd_162 148 [some (.inr (.inr (.inl (some (77))))), some (.inl c), some (.inl k9), some (.inl (((12) * c) + k9)), some (.inl k113)] [] h114 Q := by
            intro m120
            induction m120 using Nat.strongRecOn with
            | _ m120 I122 =>
              intro k113 h114 g124 Y115 B117 F116 Z118 B119 e123
              refine av_wp_sqF ck_162 2 (pc' := 151) (lv' := [some (.inr (.inr (.inl (some (77))))), some (.inl c), some (.inl k9), some (.inl (((12) * c) + k9)), some (.inl k113)]) (st' := [.inl (5), .inl k113]) (h' := h114) rfl ?_
              refine wq_k2 (p' := 154) (ck_162 _ _ rfl) rfl ⟨by omega, by omega⟩ ⟨by omega, by omega⟩ (fun c125 => ?_) (fun c126 => ?_)
              · have c125 : (5) ≤ k113 := c125
                refine av_wp_sqF ck_162 2 (pc' := 185) (lv' := [some (.inr (.inr (.inl (some (77))))), some (.inl c), some (.inl k9), some (.inl (((12) * c) + k9)), some (.inl (0))]) (st' := []) (h' := h114) rfl ?_
                have L135 : ∀ (m134 : Nat) (k127 : Int) (h128 : av_H), (0 ≤ k127 ∧ k127 ≤ 3) → IMY v1 (Int.toNat (k9)) v34 v71 h128 → BC (c).toNat (av_u1 (av_u1 (av_u1 (av_u1 (av_u1 (av_u1 (av_u1 (av_u1 (av_u1 (av_u1 (fun a => bmul a * (Int.toNat (k9))) 96 ((1 * (Int.toNat (k9))) + 1)) 97 ((1 * (Int.toNat (k9))) + 1)) 98 ((1 * (Int.toNat (k9))) + 1)) 99 ((1 * (Int.toNat (k9))) + 1)) 100 ((1 * (Int.toNat (k9))) + 1)) 101 ((1 * (Int.toNat (k9))) + 1)) 102 ((1 * (Int.toNat (k9))) + 1)) 104 (5 * (Int.toNat (k9)) + (Int.toNat (k113)))) 105 (3 * (Int.toNat (k9)) + (Int.toNat (k127)))) 106 (3 * (Int.toNat (k9)) + (Int.toNat (k127)))) (hA h) h128 → FM h h128 → ZE [96, 97, 98, 99, 100, 101, 102, 103, 104, 105, 106] [27] h h128 → BBR (hA h) (c).toNat ((Int.toNat (k9)) + 1) h128 → (3 - k127).toNat = m134 → av_wp none cd_162 185 [some (.inr (.inr (.inl (some (77))))), some (.inl c), some (.inl k9), some (.inl (((12) * c) + k9)), some (.inl k127)] [] h128 Q := by
                  intro m134
                  induction m134 using Nat.strongRecOn with
                  | _ m134 I136 =>
                    intro k127 h128 g138 Y129 B131 F130 Z132 B133 e137
                    refine av_wp_sqF ck_162 2 (pc' := 188) (lv' := [some (.inr (.inr (.inl (some (77))))), some (.inl c), some (.inl k9), some (.inl (((12) * c) + k9)), some (.inl k127)]) (st' := [.inl (3), .inl k127]) (h' := h128) rfl ?_
                    refine wq_k2 (p' := 191) (ck_162 _ _ rfl) rfl ⟨by omega, by omega⟩ ⟨by omega, by omega⟩ (fun c139 => ?_) (fun c140 => ?_)
                    · have c139 : (3) ≤ k127 := c139
                      have r143 := I.1.2.1.2.2.2.2.2 (c).toNat (Int.toNat (k9)) (by omega) (by omega)
                      rw [show 12 * (c).toNat + (Int.toNat (k9)) = (Int.toNat ((((12) * c) + k9))) by omega, u37, u74] at r143
                      have e142 := Y129.2.1
                      have I141 := IM_of Y129 (fun z => by have := r143 z; omega)
                      have B144 : BC (c).toNat (fun a => bmul a * (k9 + (1)).toNat) (hA h) h128 := BC_le B131 (fun a h1 h2 => by
                        rcases (show a = 96 ∨ a = 97 ∨ a = 98 ∨ a = 99 ∨ a = 100 ∨ a = 101 ∨ a = 102 ∨ a = 103 ∨ a = 104 ∨ a = 105 ∨ a = 106 by omega) with z | z | z | z | z | z | z | z | z | z | z
                        · subst z; show 1 * (k9 + (1)).toNat ≤ 1 * (Int.toNat (k9)) + 1; omega
                        · subst z; show 1 * (k9 + (1)).toNat ≤ 1 * (Int.toNat (k9)) + 1; omega
                        · subst z; show 1 * (k9 + (1)).toNat ≤ 1 * (Int.toNat (k9)) + 1; omega
                        · subst z; show 1 * (k9 + (1)).toNat ≤ 1 * (Int.toNat (k9)) + 1; omega
                        · subst z; show 1 * (k9 + (1)).toNat ≤ 1 * (Int.toNat (k9)) + 1; omega
                        · subst z; show 1 * (k9 + (1)).toNat ≤ 1 * (Int.toNat (k9)) + 1; omega
                        · subst z; show 1 * (k9 + (1)).toNat ≤ 1 * (Int.toNat (k9)) + 1; omega
                        · subst z; show 0 * (k9 + (1)).toNat ≤ 0 * (Int.toNat (k9)); omega
                        · subst z; show 5 * (k9 + (1)).toNat ≤ 5 * (Int.toNat (k9)) + (Int.toNat (k113)); omega
                        · subst z; show 3 * (k9 + (1)).toNat ≤ 3 * (Int.toNat (k9)) + (Int.toNat (k127)); omega
                        · subst z; show 3 * (k9 + (1)).toNat ≤ 3 * (Int.toNat (k9)) + (Int.toNat (k127)); omega)
                      refine av_wp_sqF ck_162 2 (pc' := 12) (lv' := [some (.inr (.inr (.inl (some (77))))), some (.inl c), some (.inl (k9 + (1))), some (.inl (((12) * c) + k9)), some (.inl k127)]) (st' := []) (h' := h128) rfl ?_
                      exact I21 _ (by omega) ((k9 + (1))) (some (.inl (((12) * c) + k9))) (some (.inl k127)) h128 rfl rfl (by omega) (by omega) I141 e142 B144 F130 Z132 (BBR_e B133 (by omega)) rfl
                    · have c140 : k127 < (3) := c140
                      refine av_wp_sqF ck_162 1 (pc' := 192) (lv' := [some (.inr (.inr (.inl (some (77))))), some (.inl c), some (.inl k9), some (.inl (((12) * c) + k9)), some (.inl k127)]) (st' := [.inr (.inr (.inl (some (77))))]) (h' := h128) rfl ?_
                      refine wq_gr (p' := 195) (ck_162 _ _ rfl) rfl (congrArg Prod.fst (ly_k Y129.1.1 77 rfl)) rfl (ly_g Y129.1.1 77 39 105 rfl) ?_
                      refine av_wp_sqF ck_162 6 (pc' := 202) (lv' := [some (.inr (.inr (.inl (some (77))))), some (.inl c), some (.inl k9), some (.inl (((12) * c) + k9)), some (.inl k127)]) (st' := [.inr (.inr (.inl (some (77)))), .inl (((3) * k9) + k127), .inr (.inr (.inl (some (105))))]) (h' := h128) rfl ?_
                      refine wq_gr (p' := 205) (ck_162 _ _ rfl) rfl (congrArg Prod.fst (ly_k Y129.1.1 77 rfl)) rfl (ly_g Y129.1.1 77 13 91 rfl) ?_
                      refine av_wp_sqF ck_162 5 (pc' := 211) (lv' := [some (.inr (.inr (.inl (some (77))))), some (.inl c), some (.inl k9), some (.inl (((12) * c) + k9)), some (.inl k127)]) (st' := [.inl (((3) * (((12) * c) + k9)) + k127), .inr (.inr (.inl (some (91)))), .inl (((3) * k9) + k127), .inr (.inr (.inl (some (105))))]) (h' := h128) rfl ?_
                      obtain ⟨v145, e146⟩ : ∃ v, hA h128 91 (Int.toNat ((((3) * (((12) * c) + k9)) + k127))) = v := ⟨_, rfl⟩
                      have g147 : 0 ≤ hA h128 91 (Int.toNat ((((3) * (((12) * c) + k9)) + k127))) ∧ hA h128 91 (Int.toNat ((((3) * (((12) * c) + k9)) + k127))) ≤ 1999 := im_m Y129.1 91 (by decide) (by decide) _
                      rw [e146] at g147
                      refine wq_al (p' := 212) (n := 2880) (ck_162 _ _ rfl) rfl (ly_k Y129.1.1 91 rfl) (by omega) (e146) ?_
                      refine wq_as (p' := 213) (n := 36) (ck_162 _ _ rfl) rfl (ly_k Y129.1.1 105 rfl) (by omega) ?_
                      have Y149 := IMY_w (a := 105) (j := (Int.toNat ((((3) * k9) + k127)))) (v := v145) Y129 (by omega) (show (0 : Int) ≤ v145 ∧ v145 ≤ (1999 : Int) by omega) (fun z => by omega)
                      have Y149 : IMY v1 (Int.toNat (k9)) v34 v71 (hwA h128 105 (Int.toNat ((((3) * k9) + k127))) v145) := Y149
                      have F150 := FM_wA (a := 105) (j := (Int.toNat ((((3) * k9) + k127)))) (v := v145) F130 rfl
                      have B151 := BC_w (a := 105) (j := (Int.toNat ((((3) * k9) + k127)))) (v := v145) B131 (show (Int.toNat ((((3) * k9) + k127))) = (3 * (Int.toNat (k9)) + (Int.toNat (k127))) by omega) (by show hA h 91 (3 * (12 * (c).toNat) + (3 * (Int.toNat (k9)) + (Int.toNat (k127)))) = _; rw [show 3 * (12 * (c).toNat) + (3 * (Int.toNat (k9)) + (Int.toNat (k127))) = (Int.toNat ((((3) * (((12) * c) + k9)) + k127))) by omega, ← F130.2.2.2.2.2.2 91 rfl]; exact e146)
                      have B151 : BC (c).toNat (av_u1 (av_u1 (av_u1 (av_u1 (av_u1 (av_u1 (av_u1 (av_u1 (av_u1 (av_u1 (av_u1 (fun a => bmul a * (Int.toNat (k9))) 96 ((1 * (Int.toNat (k9))) + 1)) 97 ((1 * (Int.toNat (k9))) + 1)) 98 ((1 * (Int.toNat (k9))) + 1)) 99 ((1 * (Int.toNat (k9))) + 1)) 100 ((1 * (Int.toNat (k9))) + 1)) 101 ((1 * (Int.toNat (k9))) + 1)) 102 ((1 * (Int.toNat (k9))) + 1)) 104 (5 * (Int.toNat (k9)) + (Int.toNat (k113)))) 105 (3 * (Int.toNat (k9)) + (Int.toNat (k127)))) 106 (3 * (Int.toNat (k9)) + (Int.toNat (k127)))) 105 ((3 * (Int.toNat (k9)) + (Int.toNat (k127))) + 1)) (hA h) (hwA h128 105 (Int.toNat ((((3) * k9) + k127))) v145) := B151
                      have Z152 := ZE_a (q := 105) (i := (Int.toNat ((((3) * k9) + k127)))) (v := v145) Z132 rfl rfl
                      have B153 := BBR_n (q := 105) (j := (Int.toNat ((((3) * k9) + k127)))) (v := v145) B133 (by decide)
                      generalize hwA h128 105 (Int.toNat ((((3) * k9) + k127))) v145 = h148 at Y149 F150 B151 Z152 B153 ⊢
                      refine av_wp_sqF ck_162 1 (pc' := 214) (lv' := [some (.inr (.inr (.inl (some (77))))), some (.inl c), some (.inl k9), some (.inl (((12) * c) + k9)), some (.inl k127)]) (st' := [.inr (.inr (.inl (some (77))))]) (h' := h148) rfl ?_
                      refine wq_gr (p' := 217) (ck_162 _ _ rfl) rfl (congrArg Prod.fst (ly_k Y149.1.1 77 rfl)) rfl (ly_g Y149.1.1 77 40 106 rfl) ?_
                      refine av_wp_sqF ck_162 6 (pc' := 224) (lv' := [some (.inr (.inr (.inl (some (77))))), some (.inl c), some (.inl k9), some (.inl (((12) * c) + k9)), some (.inl k127)]) (st' := [.inr (.inr (.inl (some (77)))), .inl (((3) * k9) + k127), .inr (.inr (.inl (some (106))))]) (h' := h148) rfl ?_
                      refine wq_gr (p' := 227) (ck_162 _ _ rfl) rfl (congrArg Prod.fst (ly_k Y149.1.1 77 rfl)) rfl (ly_g Y149.1.1 77 14 92 rfl) ?_
                      refine av_wp_sqF ck_162 5 (pc' := 233) (lv' := [some (.inr (.inr (.inl (some (77))))), some (.inl c), some (.inl k9), some (.inl (((12) * c) + k9)), some (.inl k127)]) (st' := [.inl (((3) * (((12) * c) + k9)) + k127), .inr (.inr (.inl (some (92)))), .inl (((3) * k9) + k127), .inr (.inr (.inl (some (106))))]) (h' := h148) rfl ?_
                      obtain ⟨v154, e155⟩ : ∃ v, hA h148 92 (Int.toNat ((((3) * (((12) * c) + k9)) + k127))) = v := ⟨_, rfl⟩
                      have g156 : 0 ≤ hA h148 92 (Int.toNat ((((3) * (((12) * c) + k9)) + k127))) ∧ hA h148 92 (Int.toNat ((((3) * (((12) * c) + k9)) + k127))) ≤ 1999 := im_m Y149.1 92 (by decide) (by decide) _
                      rw [e155] at g156
                      refine wq_al (p' := 234) (n := 2880) (ck_162 _ _ rfl) rfl (ly_k Y149.1.1 92 rfl) (by omega) (e155) ?_
                      refine wq_as (p' := 235) (n := 36) (ck_162 _ _ rfl) rfl (ly_k Y149.1.1 106 rfl) (by omega) ?_
                      have Y158 := IMY_w (a := 106) (j := (Int.toNat ((((3) * k9) + k127)))) (v := v154) Y149 (by omega) (show (0 : Int) ≤ v154 ∧ v154 ≤ (1999 : Int) by omega) (fun z => by omega)
                      have Y158 : IMY v1 (Int.toNat (k9)) v34 v71 (hwA h148 106 (Int.toNat ((((3) * k9) + k127))) v154) := Y158
                      have F159 := FM_wA (a := 106) (j := (Int.toNat ((((3) * k9) + k127)))) (v := v154) F150 rfl
                      have B160 := BC_w (a := 106) (j := (Int.toNat ((((3) * k9) + k127)))) (v := v154) B151 (show (Int.toNat ((((3) * k9) + k127))) = (3 * (Int.toNat (k9)) + (Int.toNat (k127))) by omega) (by show hA h 92 (3 * (12 * (c).toNat) + (3 * (Int.toNat (k9)) + (Int.toNat (k127)))) = _; rw [show 3 * (12 * (c).toNat) + (3 * (Int.toNat (k9)) + (Int.toNat (k127))) = (Int.toNat ((((3) * (((12) * c) + k9)) + k127))) by omega, ← F150.2.2.2.2.2.2 92 rfl]; exact e155)
                      have B160 : BC (c).toNat (av_u1 (av_u1 (av_u1 (av_u1 (av_u1 (av_u1 (av_u1 (av_u1 (av_u1 (av_u1 (av_u1 (av_u1 (fun a => bmul a * (Int.toNat (k9))) 96 ((1 * (Int.toNat (k9))) + 1)) 97 ((1 * (Int.toNat (k9))) + 1)) 98 ((1 * (Int.toNat (k9))) + 1)) 99 ((1 * (Int.toNat (k9))) + 1)) 100 ((1 * (Int.toNat (k9))) + 1)) 101 ((1 * (Int.toNat (k9))) + 1)) 102 ((1 * (Int.toNat (k9))) + 1)) 104 (5 * (Int.toNat (k9)) + (Int.toNat (k113)))) 105 (3 * (Int.toNat (k9)) + (Int.toNat (k127)))) 106 (3 * (Int.toNat (k9)) + (Int.toNat (k127)))) 105 ((3 * (Int.toNat (k9)) + (Int.toNat (k127))) + 1)) 106 ((3 * (Int.toNat (k9)) + (Int.toNat (k127))) + 1)) (hA h) (hwA h148 106 (Int.toNat ((((3) * k9) + k127))) v154) := B160
                      have Z161 := ZE_a (q := 106) (i := (Int.toNat ((((3) * k9) + k127)))) (v := v154) Z152 rfl rfl
                      have B162 := BBR_n (q := 106) (j := (Int.toNat ((((3) * k9) + k127)))) (v := v154) B153 (by decide)
                      generalize hwA h148 106 (Int.toNat ((((3) * k9) + k127))) v154 = h157 at Y158 F159 B160 Z161 B162 ⊢
                      refine av_wp_sqF ck_162 2 (pc' := 185) (lv' := [some (.inr (.inr (.inl (some (77))))), some (.inl c), some (.inl k9), some (.inl (((12) * c) + k9)), some (.inl (k127 + (1)))]) (st' := []) (h' := h157) rfl ?_
                      exact I136 _ (by omega) ((k127 + (1))) h157 (by omega) Y158 (BC_le B160 (fun a _ _ => if z : a = 106 then (by subst z; show 3 * (Int.toNat (k9)) + (Int.toNat ((k127 + (1)))) ≤ (3 * (Int.toNat (k9)) + (Int.toNat (k127))) + 1; omega) else if y : a = 105 then (by subst y; show 3 * (Int.toNat (k9)) + (Int.toNat ((k127 + (1)))) ≤ (3 * (Int.toNat (k9)) + (Int.toNat (k127))) + 1; omega) else (by simp only [av_u1, if_neg z, if_neg y, Nat.le_refl]))) F159 Z161 (BBR_e B162 (by omega)) rfl
                exact L135 _ ((0)) h114 (by omega) Y115 (BC_le B117 (fun a _ _ => if z : a = 106 then (by subst z; show 3 * (Int.toNat (k9)) + (Int.toNat ((0))) ≤ 3 * (Int.toNat (k9)); omega) else if y : a = 105 then (by subst y; show 3 * (Int.toNat (k9)) + (Int.toNat ((0))) ≤ 3 * (Int.toNat (k9)); omega) else (by simp only [av_u1, if_neg z, if_neg y, Nat.le_refl]))) F116 Z118 (BBR_e B119 (by omega)) rfl
              · have c126 : k113 < (5) := c126
                refine av_wp_sqF ck_162 1 (pc' := 155) (lv' := [some (.inr (.inr (.inl (some (77))))), some (.inl c), some (.inl k9), some (.inl (((12) * c) + k9)), some (.inl k113)]) (st' := [.inr (.inr (.inl (some (77))))]) (h' := h114) rfl ?_
                refine wq_gr (p' := 158) (ck_162 _ _ rfl) rfl (congrArg Prod.fst (ly_k Y115.1.1 77 rfl)) rfl (ly_g Y115.1.1 77 38 104 rfl) ?_
                refine av_wp_sqF ck_162 6 (pc' := 165) (lv' := [some (.inr (.inr (.inl (some (77))))), some (.inl c), some (.inl k9), some (.inl (((12) * c) + k9)), some (.inl k113)]) (st' := [.inr (.inr (.inl (some (77)))), .inl (((5) * k9) + k113), .inr (.inr (.inl (some (104))))]) (h' := h114) rfl ?_
                refine wq_gr (p' := 168) (ck_162 _ _ rfl) rfl (congrArg Prod.fst (ly_k Y115.1.1 77 rfl)) rfl (ly_g Y115.1.1 77 12 90 rfl) ?_
                refine av_wp_sqF ck_162 5 (pc' := 174) (lv' := [some (.inr (.inr (.inl (some (77))))), some (.inl c), some (.inl k9), some (.inl (((12) * c) + k9)), some (.inl k113)]) (st' := [.inl (((5) * (((12) * c) + k9)) + k113), .inr (.inr (.inl (some (90)))), .inl (((5) * k9) + k113), .inr (.inr (.inl (some (104))))]) (h' := h114) rfl ?_
                obtain ⟨v163, e164⟩ : ∃ v, hA h114 90 (Int.toNat ((((5) * (((12) * c) + k9)) + k113))) = v := ⟨_, rfl⟩
                have g165 : -1 ≤ hA h114 90 (Int.toNat ((((5) * (((12) * c) + k9)) + k113))) ∧ hA h114 90 (Int.toNat ((((5) * (((12) * c) + k9)) + k113))) ≤ 999 := im_m Y115.1 90 (by decide) (by decide) _
                rw [e164] at g165
                refine wq_al (p' := 175) (n := 4800) (ck_162 _ _ rfl) rfl (ly_k Y115.1.1 90 rfl) (by omega) (e164) ?_
                refine wq_as (p' := 176) (n := 60) (ck_162 _ _ rfl) rfl (ly_k Y115.1.1 104 rfl) (by omega) ?_
                have Y167 := IMY_w (a := 104) (j := (Int.toNat ((((5) * k9) + k113)))) (v := v163) Y115 (by omega) (show (-1 : Int) ≤ v163 ∧ v163 ≤ (999 : Int) by omega) (fun z => by omega)
                have Y167 : IMY v1 (Int.toNat (k9)) v34 v71 (hwA h114 104 (Int.toNat ((((5) * k9) + k113))) v163) := Y167
                have F168 := FM_wA (a := 104) (j := (Int.toNat ((((5) * k9) + k113)))) (v := v163) F116 rfl
                have B169 := BC_w (a := 104) (j := (Int.toNat ((((5) * k9) + k113)))) (v := v163) B117 (show (Int.toNat ((((5) * k9) + k113))) = (5 * (Int.toNat (k9)) + (Int.toNat (k113))) by omega) (by show hA h 90 (5 * (12 * (c).toNat) + (5 * (Int.toNat (k9)) + (Int.toNat (k113)))) = _; rw [show 5 * (12 * (c).toNat) + (5 * (Int.toNat (k9)) + (Int.toNat (k113))) = (Int.toNat ((((5) * (((12) * c) + k9)) + k113))) by omega, ← F116.2.2.2.2.2.2 90 rfl]; exact e164)
                have B169 : BC (c).toNat (av_u1 (av_u1 (av_u1 (av_u1 (av_u1 (av_u1 (av_u1 (av_u1 (av_u1 (fun a => bmul a * (Int.toNat (k9))) 96 ((1 * (Int.toNat (k9))) + 1)) 97 ((1 * (Int.toNat (k9))) + 1)) 98 ((1 * (Int.toNat (k9))) + 1)) 99 ((1 * (Int.toNat (k9))) + 1)) 100 ((1 * (Int.toNat (k9))) + 1)) 101 ((1 * (Int.toNat (k9))) + 1)) 102 ((1 * (Int.toNat (k9))) + 1)) 104 (5 * (Int.toNat (k9)) + (Int.toNat (k113)))) 104 ((5 * (Int.toNat (k9)) + (Int.toNat (k113))) + 1)) (hA h) (hwA h114 104 (Int.toNat ((((5) * k9) + k113))) v163) := B169
                have Z170 := ZE_a (q := 104) (i := (Int.toNat ((((5) * k9) + k113)))) (v := v163) Z118 rfl rfl
                have B171 := BBR_n (q := 104) (j := (Int.toNat ((((5) * k9) + k113)))) (v := v163) B119 (by decide)
                generalize hwA h114 104 (Int.toNat ((((5) * k9) + k113))) v163 = h166 at Y167 F168 B169 Z170 B171 ⊢
                refine av_wp_sqF ck_162 2 (pc' := 148) (lv' := [some (.inr (.inr (.inl (some (77))))), some (.inl c), some (.inl k9), some (.inl (((12) * c) + k9)), some (.inl (k113 + (1)))]) (st' := []) (h' := h166) rfl ?_
                exact I122 _ (by omega) ((k113 + (1))) h166 (by omega) Y167 (BC_le B169 (fun a _ _ => if z : a = 104 then (by subst z; show 5 * (Int.toNat (k9)) + (Int.toNat ((k113 + (1)))) ≤ (5 * (Int.toNat (k9)) + (Int.toNat (k113))) + 1; omega) else (by simp only [av_u1, if_neg z, Nat.le_refl]))) F168 Z170 (BBR_e B171 (by omega)) rfl
          exact L121 _ ((0)) h107 (by omega) Y108 (BC_le B110 (fun a _ _ => if z : a = 104 then (by subst z; show 5 * (Int.toNat (k9)) + (Int.toNat ((0))) ≤ 5 * (Int.toNat (k9)); omega) else (by simp only [av_u1, if_neg z, Nat.le_refl]))) F109 Z111 (BBR_e B112 (by omega)) rfl
        refine wq_k1 (p' := 125) (ck_162 _ _ rfl) rfl ⟨by omega, by omega⟩ (fun c172 => ?_) (fun c173 => ?_)
        · have c172 : v99 < (0) := c172
          refine av_wp_sqF ck_162 1 (pc' := 144) (lv' := [some (.inr (.inr (.inl (some (77))))), some (.inl c), some (.inl k9), some (.inl (((12) * c) + k9)), a11]) (st' := [.inl (0), .inl k9, .inr (.inr (.inl (some (103))))]) (h' := h93) rfl ?_
          exact J106 ((0)) (by omega) (by unfold bbr; rw [y102]; split <;> omega)
        · have c173 : (0) ≤ v99 := c173
          refine av_wp_sqF ck_162 1 (pc' := 126) (lv' := [some (.inr (.inr (.inl (some (77))))), some (.inl c), some (.inl k9), some (.inl (((12) * c) + k9)), a11]) (st' := [.inr (.inr (.inl (some (77)))), .inl k9, .inr (.inr (.inl (some (103))))]) (h' := h93) rfl ?_
          refine wq_gr (p' := 129) (ck_162 _ _ rfl) rfl (congrArg Prod.fst (ly_k Y94.1.1 77 rfl)) rfl (ly_g Y94.1.1 77 54 116 rfl) ?_
          refine av_wp_sqF ck_162 1 (pc' := 130) (lv' := [some (.inr (.inr (.inl (some (77))))), some (.inl c), some (.inl k9), some (.inl (((12) * c) + k9)), a11]) (st' := [.inr (.inr (.inl (some (77)))), .inr (.inr (.inl (some (116)))), .inl k9, .inr (.inr (.inl (some (103))))]) (h' := h93) rfl ?_
          refine wq_gr (p' := 133) (ck_162 _ _ rfl) rfl (congrArg Prod.fst (ly_k Y94.1.1 77 rfl)) rfl (ly_g Y94.1.1 77 10 88 rfl) ?_
          refine av_wp_sqF ck_162 1 (pc' := 134) (lv' := [some (.inr (.inr (.inl (some (77))))), some (.inl c), some (.inl k9), some (.inl (((12) * c) + k9)), a11]) (st' := [.inl (((12) * c) + k9), .inr (.inr (.inl (some (88)))), .inr (.inr (.inl (some (116)))), .inl k9, .inr (.inr (.inl (some (103))))]) (h' := h93) rfl ?_
          obtain ⟨v174, e175⟩ : ∃ v, hA h93 88 (Int.toNat ((((12) * c) + k9))) = v := ⟨_, rfl⟩
          have g176 : -1 ≤ hA h93 88 (Int.toNat ((((12) * c) + k9))) ∧ hA h93 88 (Int.toNat ((((12) * c) + k9))) ≤ 15 := im_m Y94.1 88 (by decide) (by decide) _
          rw [e175] at g176
          have y177 : v174 = v99 := e175.symm.trans e100
          refine wq_al (p' := 135) (n := 960) (ck_162 _ _ rfl) rfl (ly_k Y94.1.1 88 rfl) (by omega) (e175) ?_
          obtain ⟨v178, e179⟩ : ∃ v, hA h93 116 (Int.toNat (v174)) = v := ⟨_, rfl⟩
          have y181 : hA h 116 (Int.toNat (v99)) = v178 := by rw [← y177, ← Z97.1 116 rfl]; exact e179
          have g182 := SB (Int.toNat (k9)) (by rw [e2]; omega) (by rw [y102]; omega)
          rw [y102, y181] at g182
          refine wq_bl (p' := 136) (n := 16) (ck_162 _ _ rfl) rfl ((Or.inr (ly_k Y94.1.1 116 rfl))) (by omega) (e179) ?_
          refine wq_k1 (p' := 139) (ck_162 _ _ rfl) rfl ⟨by omega, by omega⟩ (fun c183 => ?_) (fun c184 => ?_)
          · have c183 : v178 ≠ (0) := c183
            refine av_wp_sqF ck_162 1 (pc' := 144) (lv' := [some (.inr (.inr (.inl (some (77))))), some (.inl c), some (.inl k9), some (.inl (((12) * c) + k9)), a11]) (st' := [.inl (0), .inl k9, .inr (.inr (.inl (some (103))))]) (h' := h93) rfl ?_
            exact J106 ((0)) (by omega) (by unfold bbr; rw [y102, y181]; split <;> omega)
          · have c184 : v178 = (0) := c184
            refine av_wp_sqF ck_162 2 (pc' := 144) (lv' := [some (.inr (.inr (.inl (some (77))))), some (.inl c), some (.inl k9), some (.inl (((12) * c) + k9)), a11]) (st' := [.inl (1), .inl k9, .inr (.inr (.inl (some (103))))]) (h' := h93) rfl ?_
            exact J106 ((1)) (by omega) (by unfold bbr; rw [y102, y181]; split <;> omega)
  exact L20 _ ((0)) (none) (none) h7 rfl rfl (by omega) (by omega) I4 e6 B8 F5 ZB0 (BBR_e BBR_0 (by omega)) rfl
end
section
/-! THE REFERENCE: is it sure, exactly -/
set_option maxRecDepth 100000 in
set_option maxHeartbeats 4000000 in
theorem cx_184 {g h : av_H} {n a m : Int} (I : IMF n a m h) (F : FM g h) {u ro bar : Nat → Int} {s : Nat} (en : n = (s : Int)) (B : RBB u ro bar s h) (W : RWF u ro s) {Q : Option av_V → av_H → Prop} (hq : ∀ (v : Int) a' m' h', IMF n a' m' h' → FM g h' → ZE [107, 108, 109, 110, 111, 112, 113, 114, 115] [28, 29, 50, 51, 52, 53] h h' → RBA u ro bar s h' → ((v = 1 ∧ SRE u ro bar s) ∨ (v = 0 ∧ ¬ SRE u ro bar s)) → Q (some (.inl v)) h') : av_wp none cd_184 0 [some (.inr (.inr (.inl (some (77))))), none] [] h Q := by
  have gn := im_n I.1.1
  rw [I.2.1] at gn
  have ga := im_a I.1.1
  rw [I.2.2.1] at ga
  have gm := im_cm I.1.1
  rw [I.2.2.2] at gm
  have Z := ZE_rf (L := [107, 108, 109, 110, 111, 112, 113, 114, 115]) (K := [28, 29, 50, 51, 52, 53]) h
  refine av_wp_sqF ck_184 1 (pc' := 1) (lv' := [some (.inr (.inr (.inl (some (77))))), none]) (st' := [.inr (.inr (.inl (some (77))))]) (h' := h) rfl ?_
  refine wq_cv (p' := 4) (av_qc (.invokevirtual 424) 163 0 0 8) 4 cd_163 [] (77) 8 [some (.inr (.inr (.inl (some (77))))), none, none, none] (ck_184 _ _ rfl) rfl rfl pp_163 rfl rfl rfl (congrArg Prod.fst (ly_k I.1.1.1 77 rfl)) rfl rfl rfl rfl ?_
  refine cy_163 I.1 I.2.1 F en B (fun a1 m2 h3 z4 A5 Z6 I7 F8 => ?_)
  have z4a := z4.1
  have z4b := z4.2
  have g10 := im_a I7.1.1
  rw [I7.2.2.1] at g10
  have g11 := im_cm I7.1.1
  rw [I7.2.2.2] at g11
  have Z9 := ZE_tr Z (ZE_up Z6 rfl rfl)
  show av_wp _ cd_184 4 [some (.inr (.inr (.inl (some (77))))), none] [] h3 _
  refine av_wp_sqF ck_184 1 (pc' := 5) (lv' := [some (.inr (.inr (.inl (some (77))))), none]) (st' := [.inr (.inr (.inl (some (77))))]) (h' := h3) rfl ?_
  refine wq_cv (p' := 8) (av_qc (.invokevirtual 427) 164 0 0 8) 1 cd_164 [] (77) 8 [some (.inr (.inr (.inl (some (77)))))] (ck_184 _ _ rfl) rfl rfl pp_164 rfl rfl rfl (congrArg Prod.fst (ly_k I7.1.1.1 77 rfl)) rfl rfl rfl rfl ?_
  refine ct_164 I7 F8 (fun v12 p13 => ?_)
  show av_wp _ cd_184 8 [some (.inr (.inr (.inl (some (77))))), none] [.inl v12] h3 _
  refine wq_k1 (p' := 11) (ck_184 _ _ rfl) rfl ⟨by omega, by omega⟩ (fun c14 => ?_) (fun c15 => ?_)
  · have c14 : v12 ≠ (0) := c14
    refine av_wp_sqF ck_184 2 (pc' := 15) (lv' := [some (.inr (.inr (.inl (some (77))))), some (.inl (0))]) (st' := []) (h' := h3) rfl ?_
    have L24 : ∀ (m23 : Nat) (k16 : Int) (h17 : av_H), (0 ≤ k16 ∧ k16 ≤ 1025) → IMF n a1 m2 h17 → FM g h17 → ZE [107, 108, 109, 110, 111, 112, 113, 114, 115] [28, 29, 50, 51, 52, 53] h h17 → RBA u ro bar s h17 → (∀ y : Int, 0 ≤ y → y < k16 → (bgn u ro bar s y).2.2 ≠ 9999) → (1025 - k16).toNat = m23 → av_wp none cd_184 15 [some (.inr (.inr (.inl (some (77))))), some (.inl k16)] [] h17 Q := by
      intro m23
      induction m23 using Nat.strongRecOn with
      | _ m23 I25 =>
        intro k16 h17 g27 I18 F19 Z20 X21 X22 e26
        refine av_wp_sqF ck_184 1 (pc' := 16) (lv' := [some (.inr (.inr (.inl (some (77))))), some (.inl k16)]) (st' := [.inl k16]) (h' := h17) rfl ?_
        refine av_wp_sqF ck_184 1 (pc' := 17) (lv' := [some (.inr (.inr (.inl (some (77))))), some (.inl k16)]) (st' := [.inr (.inr (.inl (some (77)))), .inl k16]) (h' := h17) rfl ?_
        refine wq_gi (p' := 20) (ck_184 _ _ rfl) rfl (congrArg Prod.fst (ly_k I18.1.1.1 77 rfl)) rfl (I18.2.2.2) ?_
        refine wq_k2 (p' := 23) (ck_184 _ _ rfl) rfl ⟨by omega, by omega⟩ ⟨by omega, by omega⟩ (fun c28 => ?_) (fun c29 => ?_)
        · have c28 : m2 ≤ k16 := c28
          refine av_wp_sqF ck_184 1 (pc' := 44) (lv' := [some (.inr (.inr (.inl (some (77))))), some (.inl k16)]) (st' := [.inl (1)]) (h' := h17) rfl ?_
          refine av_wp_ret (v := some (.inl (1))) (ck_184 _ _ rfl) rfl rfl ?_
          exact hq _ _ _ h17 I18 F19 Z20 X21 (Or.inl ⟨rfl, by omega, fun y y1 y2 => X22 y y1 (by omega)⟩)
        · have c29 : k16 < m2 := c29
          refine av_wp_sqF ck_184 2 (pc' := 25) (lv' := [some (.inr (.inr (.inl (some (77))))), some (.inl k16)]) (st' := [.inl k16, .inr (.inr (.inl (some (77))))]) (h' := h17) rfl ?_
          refine wq_cv (p' := 28) (av_qc (.invokevirtual 431) 181 1 0 8) 2 cd_181 [.inl k16] (77) 8 [some (.inr (.inr (.inl (some (77))))), some (.inl k16)] (ck_184 _ _ rfl) rfl rfl pp_181 rfl rfl rfl (congrArg Prod.fst (ly_k I18.1.1.1 77 rfl)) rfl rfl rfl rfl ?_
          refine cy_181 I18 F19 en X21 W (k16) (by omega) (fun h30 I31 F32 Z33 A34 O35 B36 L37 => ?_)
          have Z38 := ZE_tr Z20 (ZE_up Z33 rfl rfl)
          show av_wp _ cd_184 28 [some (.inr (.inr (.inl (some (77))))), some (.inl k16)] [] h30 _
          refine av_wp_sqF ck_184 1 (pc' := 29) (lv' := [some (.inr (.inr (.inl (some (77))))), some (.inl k16)]) (st' := [.inr (.inr (.inl (some (77))))]) (h' := h30) rfl ?_
          obtain ⟨v39, e40⟩ : ∃ v, hF h30 77 50 = v := ⟨_, rfl⟩
          have g41 := im_has I31.1.1
          rw [e40] at g41
          refine wq_gb (p' := 32) (ck_184 _ _ rfl) rfl (congrArg Prod.fst (ly_k I31.1.1.1 77 rfl)) rfl (e40) ?_
          refine wq_k1 (p' := 35) (ck_184 _ _ rfl) rfl ⟨by omega, by omega⟩ (fun c42 => ?_) (fun c43 => ?_)
          · have c42 : v39 ≠ (0) := c42
            refine av_wp_sqF ck_184 2 (pc' := 15) (lv' := [some (.inr (.inr (.inl (some (77))))), some (.inl (k16 + (1)))]) (st' := []) (h' := h30) rfl ?_
            exact I25 _ (by omega) ((k16 + (1))) h30 (by omega) I31 F32 Z38 A34 (fun y y1 y2 => if c : y = k16 then (by subst c; exact (BRR_ye B36 e40 (by omega)).1) else X22 y y1 (by omega)) rfl
          · have c43 : v39 = (0) := c43
            refine av_wp_sqF ck_184 1 (pc' := 36) (lv' := [some (.inr (.inr (.inl (some (77))))), some (.inl k16)]) (st' := [.inl (0)]) (h' := h30) rfl ?_
            refine av_wp_ret (v := some (.inl (0))) (ck_184 _ _ rfl) rfl rfl ?_
            exact hq _ _ _ h30 I31 F32 Z38 A34 (Or.inr ⟨rfl, fun z => z.2 k16 (by omega) (by omega) (BRR_no B36 e40 (by omega))⟩)
    exact L24 _ ((0)) h3 (by omega) I7 F8 Z9 A5 (fun y y1 y2 => by omega) rfl
  · have c15 : v12 = (0) := c15
    refine av_wp_sqF ck_184 1 (pc' := 12) (lv' := [some (.inr (.inr (.inl (some (77))))), none]) (st' := [.inl (0)]) (h' := h3) rfl ?_
    refine av_wp_ret (v := some (.inl (0))) (ck_184 _ _ rfl) rfl rfl ?_
    exact hq _ _ _ h3 I7 F8 Z9 A5 (Or.inr ⟨rfl, fun z => by have := z.1; omega⟩)
end
section
/-! THE REFERENCE TAKES A CASE, exactly -/
set_option maxRecDepth 100000 in
set_option maxHeartbeats 4000000 in
theorem cx_185 {g h : av_H} {n a m : Int} (I : IMF n a m h) (F : FM g h) (x : Int) (qx : 0 ≤ x ∧ x ≤ 15) (qg : x < hA g 78 0) {U : Nat → Nat → Int} {S : Nat → Nat} {ro : Nat → Int} (RC : ∀ c : Nat, c ≤ Int.toNat x → RCA (hA g) U S c) (WC : ∀ c : Nat, c ≤ Int.toNat x → RWF (U c) ro (S c)) (WG : ∀ c : Nat, c ≤ Int.toNat x → ∀ k, k < S c → -1 ≤ U c (21 * k + 6) ∧ U c (21 * k + 6) < (c : Int)) (RO : ∀ j, j < 13 → hA h 95 j = ro j) {Q : Option av_V → av_H → Prop} (hq : ∀ n' a' m' h', n' = (S (Int.toNat x) : Int) → m' = cbf (U (Int.toNat x)) (S (Int.toNat x)) → RBA (U (Int.toNat x)) ro (brv (U (Int.toNat x)) (srt U S ro (Int.toNat x))) (S (Int.toNat x)) h' → ZE [96, 97, 98, 99, 100, 101, 102, 103, 104, 105, 106, 107, 108, 109, 110, 111, 112, 113, 114, 115, 116, 117] [27, 28, 29, 50, 51, 52, 53] h h' → IMF n' a' m' h' → FM g h' → Q none h') : av_wp none cd_185 0 [some (.inr (.inr (.inl (some (77))))), some (.inl x), none, none] [] h Q := by
  have gn := im_n I.1.1
  rw [I.2.1] at gn
  have ga := im_a I.1.1
  rw [I.2.2.1] at ga
  have gm := im_cm I.1.1
  rw [I.2.2.2] at gm
  have Z := ZE_rf (L := [96, 97, 98, 99, 100, 101, 102, 103, 104, 105, 106, 107, 108, 109, 110, 111, 112, 113, 114, 115, 116, 117]) (K := [27, 28, 29, 50, 51, 52, 53]) h
  refine av_wp_sqF ck_185 2 (pc' := 2) (lv' := [some (.inr (.inr (.inl (some (77))))), some (.inl x), some (.inl (0)), none]) (st' := []) (h' := h) rfl ?_
  have L12 : ∀ (m11 : Nat) (k1 : Int) (n5 : Int) (a6 : Int) (m7 : Int) (h2 : av_H), (0 ≤ k1 ∧ k1 ≤ 16) → (0 ≤ n5 ∧ n5 ≤ 12) ∧ (0 ≤ a6 ∧ a6 ≤ 48) ∧ (0 ≤ m7 ∧ m7 ≤ 1025) → IMF n5 a6 m7 h2 → FM g h2 → ZE [96, 97, 98, 99, 100, 101, 102, 103, 104, 105, 106, 107, 108, 109, 110, 111, 112, 113, 114, 115, 116, 117] [27, 28, 29, 50, 51, 52, 53] h h2 → FI 16 (fun j => if j = (Int.toNat x) then 1 else 0) (hA h 117) k1 (hA h2 117) → (16 - k1).toNat = m11 → av_wp none cd_185 2 [some (.inr (.inr (.inl (some (77))))), some (.inl x), some (.inl k1), none] [] h2 Q := by
    intro m11
    induction m11 using Nat.strongRecOn with
    | _ m11 I13 =>
      intro k1 n5 a6 m7 h2 g15 g8 I3 F4 Z9 X10 e14
      refine av_wp_sqF ck_185 2 (pc' := 5) (lv' := [some (.inr (.inr (.inl (some (77))))), some (.inl x), some (.inl k1), none]) (st' := [.inl (16), .inl k1]) (h' := h2) rfl ?_
      refine wq_k2 (p' := 8) (ck_185 _ _ rfl) rfl ⟨by omega, by omega⟩ ⟨by omega, by omega⟩ (fun c16 => ?_) (fun c17 => ?_)
      · have c16 : (16) ≤ k1 := c16
        refine av_wp_sqF ck_185 2 (pc' := 32) (lv' := [some (.inr (.inr (.inl (some (77))))), some (.inl x), some (.inl x), none]) (st' := []) (h' := h2) rfl ?_
        have L30 : ∀ (m29 : Nat) (k18 : Int) (a19 : Option av_V) (n23 : Int) (a24 : Int) (m25 : Int) (h20 : av_H), av_lg a19 = false → k18 ≤ x → (-1 ≤ k18 ∧ k18 ≤ 15) → (0 ≤ n23 ∧ n23 ≤ 12) ∧ (0 ≤ a24 ∧ a24 ≤ 48) ∧ (0 ≤ m25 ∧ m25 ≤ 1025) → IMF n23 a24 m25 h20 → FM g h20 → ZE [96, 97, 98, 99, 100, 101, 102, 103, 104, 105, 106, 107, 108, 109, 110, 111, 112, 113, 114, 115, 116, 117] [27, 28, 29, 50, 51, 52, 53] h h20 → NDR U S (Int.toNat x) k18 (hA h20 117) → (k18 + 1).toNat = m29 → av_wp none cd_185 32 [some (.inr (.inr (.inl (some (77))))), some (.inl x), some (.inl k18), a19] [] h20 Q := by
          intro m29
          induction m29 using Nat.strongRecOn with
          | _ m29 I31 =>
            intro k18 a19 n23 a24 m25 h20 g33 g34 g35 g26 I21 F22 Z27 X28 e32
            have la19 := g33
            refine av_wp_sqF ck_185 1 (pc' := 33) (lv' := [some (.inr (.inr (.inl (some (77))))), some (.inl x), some (.inl k18), a19]) (st' := [.inl k18]) (h' := h20) rfl ?_
            refine wq_k1 (p' := 36) (ck_185 _ _ rfl) rfl ⟨by omega, by omega⟩ (fun c36 => ?_) (fun c37 => ?_)
            · have c36 : k18 < (0) := c36
              refine av_wp_sqF ck_185 2 (pc' := 102) (lv' := [some (.inr (.inr (.inl (some (77))))), some (.inl x), some (.inl (0)), a19]) (st' := []) (h' := h20) rfl ?_
              have L50 : ∀ (m49 : Nat) (k38 : Int) (n42 : Int) (a43 : Int) (m44 : Int) (h39 : av_H), k38 ≤ x → (0 ≤ k38 ∧ k38 ≤ 15) → (0 ≤ n42 ∧ n42 ≤ 12) ∧ (0 ≤ a43 ∧ a43 ≤ 48) ∧ (0 ≤ m44 ∧ m44 ≤ 1025) → IMF n42 a43 m44 h39 → FM g h39 → ZE [96, 97, 98, 99, 100, 101, 102, 103, 104, 105, 106, 107, 108, 109, 110, 111, 112, 113, 114, 115, 116, 117] [27, 28, 29, 50, 51, 52, 53] h h39 → SRR U S ro (hA h20 117) (Int.toNat (k38)) (hA h39 116) → hA h39 117 = (hA h20 117) → (15 - k38).toNat = m49 → av_wp none cd_185 102 [some (.inr (.inr (.inl (some (77))))), some (.inl x), some (.inl k38), a19] [] h39 Q := by
                intro m49
                induction m49 using Nat.strongRecOn with
                | _ m49 I51 =>
                  intro k38 n42 a43 m44 h39 g53 g54 g45 I40 F41 Z46 X47 X48 e52
                  refine av_wp_sqF ck_185 2 (pc' := 104) (lv' := [some (.inr (.inr (.inl (some (77))))), some (.inl x), some (.inl k38), a19]) (st' := [.inl x, .inl k38]) (h' := h39) rfl ?_
                  refine wq_k2 (p' := 107) (ck_185 _ _ rfl) rfl ⟨by omega, by omega⟩ ⟨by omega, by omega⟩ (fun c55 => ?_) (fun c56 => ?_)
                  · have c55 : x ≤ k38 := c55
                    refine av_wp_sqF ck_185 2 (pc' := 142) (lv' := [some (.inr (.inr (.inl (some (77))))), some (.inl x), some (.inl k38), a19]) (st' := [.inl x, .inr (.inr (.inl (some (77))))]) (h' := h39) rfl ?_
                    refine wq_cv (p' := 145) (av_qc (.invokevirtual 434) 162 1 0 8) 5 cd_162 [.inl x] (77) 8 [some (.inr (.inr (.inl (some (77))))), some (.inl x), none, none, none] (ck_185 _ _ rfl) rfl rfl pp_162 rfl rfl rfl (congrArg Prod.fst (ly_k I40.1.1.1 77 rfl)) rfl rfl rfl rfl ?_
                    have X73 : SRR U S ro (hA h20 117) (Int.toNat (x)) (hA h39 116) := by rw [show (Int.toNat (x)) = Int.toNat (k38) by omega]; exact X47
                    have R57 := RCA_f (RC (Int.toNat (x)) (by omega)) F41
                    have N58 := X28.2.2 (Int.toNat (x)) (by omega) (by omega) X28.2.1
                    refine cx_162 I40.1 (x) (by have z1 := congrFun (F41.2.2.2.2.2.2 78 rfl) 0; omega) (fun i hi => SRR_b (nd := (hA h20 117)) R57 (by have := R57.1; omega) (WG (Int.toNat (x)) (by omega) i (by have := R57.1; omega)).2 (by omega) N58 X73) (fun n59 h60 i61 e62 b63 F64 B65 Z66 => ?_)
                    have e70 : n59 = (S (Int.toNat (x)) : Int) := b63.1.symm.trans R57.1
                    have B69 : RBB (U (Int.toNat (x))) ro (brv (U (Int.toNat (x))) (srt U S ro (Int.toNat (x)))) (S (Int.toNat (x))) h60 := RBB_of R57 b63.1 b63.2 (fun k hk => (B65 k (by omega)).trans (bbr_b (nd := (hA h20 117)) (x := 0) R57 hk (WG (Int.toNat (x)) (by omega) k hk).2 (by omega) N58 X73)) (fun j hj => (congrFun (Z66.1 95 rfl) j).trans ((congrFun (Z46.1 95 rfl) j).trans (RO j hj)))
                    have F67 := FM_tr F41 F64
                    have Z68 := ZE_tr Z46 (ZE_up Z66 rfl rfl)
                    have I74 : IMF n59 (hF h60 77 28) (hF h60 77 29) h60 := ⟨i61, e62, rfl, rfl⟩
                    generalize hF h60 77 28 = a71 at I74
                    generalize hF h60 77 29 = m72 at I74
                    have g75 := im_n I74.1.1
                    rw [I74.2.1] at g75
                    have g76 := im_a I74.1.1
                    rw [I74.2.2.1] at g76
                    have g77 := im_cm I74.1.1
                    rw [I74.2.2.2] at g77
                    show av_wp _ cd_185 145 [some (.inr (.inr (.inl (some (77))))), some (.inl x), some (.inl k38), a19] [] h60 _
                    refine av_wp_sqF ck_185 1 (pc' := 146) (lv' := [some (.inr (.inr (.inl (some (77))))), some (.inl x), some (.inl k38), a19]) (st' := [.inr (.inr (.inl (some (77))))]) (h' := h60) rfl ?_
                    refine wq_cv (p' := 149) (av_qc (.invokevirtual 424) 163 0 0 8) 4 cd_163 [] (77) 8 [some (.inr (.inr (.inl (some (77))))), none, none, none] (ck_185 _ _ rfl) rfl rfl pp_163 rfl rfl rfl (congrArg Prod.fst (ly_k I74.1.1.1 77 rfl)) rfl rfl rfl rfl ?_
                    refine cy_163 I74.1 I74.2.1 F67 e70 B69 (fun a78 m79 h80 z81 A82 Z83 I84 F85 => ?_)
                    have z81a := z81.1
                    have z81b := z81.2
                    have g87 := im_a I84.1.1
                    rw [I84.2.2.1] at g87
                    have g88 := im_cm I84.1.1
                    rw [I84.2.2.2] at g88
                    have Z86 := ZE_tr Z68 (ZE_up Z83 rfl rfl)
                    show av_wp _ cd_185 149 [some (.inr (.inr (.inl (some (77))))), some (.inl x), some (.inl k38), a19] [] h80 _
                    refine av_wp_ret (v := none) (ck_185 _ _ rfl) rfl rfl ?_
                    exact hq _ _ _ h80 e70 z81b A82 Z86 I84 F85
                  · have c56 : k38 < x := c56
                    refine av_wp_sqF ck_185 1 (pc' := 108) (lv' := [some (.inr (.inr (.inl (some (77))))), some (.inl x), some (.inl k38), a19]) (st' := [.inr (.inr (.inl (some (77))))]) (h' := h39) rfl ?_
                    refine wq_gr (p' := 111) (ck_185 _ _ rfl) rfl (congrArg Prod.fst (ly_k I40.1.1.1 77 rfl)) rfl (ly_g I40.1.1.1 77 55 117 rfl) ?_
                    refine av_wp_sqF ck_185 1 (pc' := 112) (lv' := [some (.inr (.inr (.inl (some (77))))), some (.inl x), some (.inl k38), a19]) (st' := [.inl k38, .inr (.inr (.inl (some (117))))]) (h' := h39) rfl ?_
                    obtain ⟨v89, e90⟩ : ∃ v, hA h39 117 (Int.toNat (k38)) = v := ⟨_, rfl⟩
                    have y92 : (hA h20 117) (Int.toNat (k38)) = v89 := (congrFun X48 _).symm.trans e90
                    have g93 := X28.1 (Int.toNat (k38)) (by omega)
                    rw [y92] at g93
                    refine wq_bl (p' := 113) (n := 16) (ck_185 _ _ rfl) rfl ((Or.inr (ly_k I40.1.1.1 117 rfl))) (by omega) (e90) ?_
                    refine wq_k1 (p' := 116) (ck_185 _ _ rfl) rfl ⟨by omega, by omega⟩ (fun c94 => ?_) (fun c95 => ?_)
                    · have c94 : v89 ≠ (0) := c94
                      refine av_wp_sqF ck_185 2 (pc' := 121) (lv' := [some (.inr (.inr (.inl (some (77))))), some (.inl x), some (.inl k38), a19]) (st' := [.inl k38, .inr (.inr (.inl (some (77))))]) (h' := h39) rfl ?_
                      refine wq_cv (p' := 124) (av_qc (.invokevirtual 434) 162 1 0 8) 5 cd_162 [.inl k38] (77) 8 [some (.inr (.inr (.inl (some (77))))), some (.inl k38), none, none, none] (ck_185 _ _ rfl) rfl rfl pp_162 rfl rfl rfl (congrArg Prod.fst (ly_k I40.1.1.1 77 rfl)) rfl rfl rfl rfl ?_
                      have R96 := RCA_f (RC (Int.toNat (k38)) (by omega)) F41
                      have N97 := X28.2.2 (Int.toNat (k38)) (by omega) (by omega) (y92.trans (by omega))
                      refine cx_162 I40.1 (k38) (by have z1 := congrFun (F41.2.2.2.2.2.2 78 rfl) 0; omega) (fun i hi => SRR_b (nd := (hA h20 117)) R96 (by have := R96.1; omega) (WG (Int.toNat (k38)) (by omega) i (by have := R96.1; omega)).2 (by omega) N97 X47) (fun n98 h99 i100 e101 b102 F103 B104 Z105 => ?_)
                      have e109 : n98 = (S (Int.toNat (k38)) : Int) := b102.1.symm.trans R96.1
                      have B108 : RBB (U (Int.toNat (k38))) ro (brv (U (Int.toNat (k38))) (srt U S ro (Int.toNat (k38)))) (S (Int.toNat (k38))) h99 := RBB_of R96 b102.1 b102.2 (fun k hk => (B104 k (by omega)).trans (bbr_b (nd := (hA h20 117)) (x := 0) R96 hk (WG (Int.toNat (k38)) (by omega) k hk).2 (by omega) N97 X47)) (fun j hj => (congrFun (Z105.1 95 rfl) j).trans ((congrFun (Z46.1 95 rfl) j).trans (RO j hj)))
                      have F106 := FM_tr F41 F103
                      have Z107 := ZE_tr Z46 (ZE_up Z105 rfl rfl)
                      have I112 : IMF n98 (hF h99 77 28) (hF h99 77 29) h99 := ⟨i100, e101, rfl, rfl⟩
                      generalize hF h99 77 28 = a110 at I112
                      generalize hF h99 77 29 = m111 at I112
                      have g113 := im_n I112.1.1
                      rw [I112.2.1] at g113
                      have g114 := im_a I112.1.1
                      rw [I112.2.2.1] at g114
                      have g115 := im_cm I112.1.1
                      rw [I112.2.2.2] at g115
                      show av_wp _ cd_185 124 [some (.inr (.inr (.inl (some (77))))), some (.inl x), some (.inl k38), a19] [] h99 _
                      refine av_wp_sqF ck_185 1 (pc' := 125) (lv' := [some (.inr (.inr (.inl (some (77))))), some (.inl x), some (.inl k38), a19]) (st' := [.inr (.inr (.inl (some (77))))]) (h' := h99) rfl ?_
                      refine wq_gr (p' := 128) (ck_185 _ _ rfl) rfl (congrArg Prod.fst (ly_k I112.1.1.1 77 rfl)) rfl (ly_g I112.1.1.1 77 54 116 rfl) ?_
                      refine av_wp_sqF ck_185 2 (pc' := 130) (lv' := [some (.inr (.inr (.inl (some (77))))), some (.inl x), some (.inl k38), a19]) (st' := [.inr (.inr (.inl (some (77)))), .inl k38, .inr (.inr (.inl (some (116))))]) (h' := h99) rfl ?_
                      refine wq_cv (p' := 133) (av_qc (.invokevirtual 437) 184 0 0 8) 2 cd_184 [] (77) 8 [some (.inr (.inr (.inl (some (77))))), none] (ck_185 _ _ rfl) rfl rfl pp_184 rfl rfl rfl (congrArg Prod.fst (ly_k I112.1.1.1 77 rfl)) rfl rfl rfl rfl ?_
                      refine cx_184 I112 F106 e109 B108 (WC (Int.toNat (k38)) (by omega)) (fun v116 a117 m118 h119 I120 F121 Z122 A123 p124 => ?_)
                      have Z125 := ZE_tr Z107 (ZE_up Z122 rfl rfl)
                      have k126 := (Z122.1 116 rfl).trans (Z105.1 116 rfl)
                      have k127 := (Z122.1 117 rfl).trans (Z105.1 117 rfl)
                      have g128 := im_a I120.1.1
                      rw [I120.2.2.1] at g128
                      have g129 := im_cm I120.1.1
                      rw [I120.2.2.2] at g129
                      show av_wp _ cd_185 133 [some (.inr (.inr (.inl (some (77))))), some (.inl x), some (.inl k38), a19] [.inl v116, .inl k38, .inr (.inr (.inl (some (116))))] h119 _
                      refine xm_zs (p' := 134) (l := 16) rfl rfl I120 F121 (ly_k I120.1.1.1 116 rfl) (by omega) (by omega) (by omega) (fun h130 I131 F132 e133 => ?_)
                      have Z134 := ZE_a Z125 e133 rfl
                      refine av_wp_sqF ck_185 2 (pc' := 102) (lv' := [some (.inr (.inr (.inl (some (77))))), some (.inl x), some (.inl (k38 + (1))), a19]) (st' := []) (h' := h130) rfl ?_
                      exact I51 _ (by omega) ((k38 + (1))) (n98) (a117) (m118) h130 (by omega) (by omega) (by omega) I131 F132 Z134 (by rw [show Int.toNat ((k38 + (1))) = Int.toNat (k38) + 1 by omega, hA_eu e133, k126]; exact SRR_s X47 (sre_v p124)) ((hA_en e133 (by decide)).trans (k127.trans X48)) rfl
                    · have c95 : v89 = (0) := c95
                      refine av_wp_sqF ck_185 3 (pc' := 102) (lv' := [some (.inr (.inr (.inl (some (77))))), some (.inl x), some (.inl (k38 + (1))), a19]) (st' := []) (h' := h39) rfl ?_
                      exact I51 _ (by omega) ((k38 + (1))) (n42) (a43) (m44) h39 (by omega) (by omega) (by omega) I40 F41 Z46 (by rw [show Int.toNat ((k38 + (1))) = Int.toNat (k38) + 1 by omega]; exact SRR_n X47 (y92.trans (by omega))) X48 rfl
              exact L50 _ ((0)) (n23) (a24) (m25) h20 (by omega) (by omega) (by omega) I21 F22 Z27 SRR_0 rfl rfl
            · have c37 : (0) ≤ k18 := c37
              refine av_wp_sqF ck_185 2 (pc' := 38) (lv' := [some (.inr (.inr (.inl (some (77))))), some (.inl x), some (.inl k18), some (.inl (0))]) (st' := []) (h' := h20) rfl ?_
              have L146 : ∀ (m145 : Nat) (k135 : Int) (n139 : Int) (a140 : Int) (m141 : Int) (h136 : av_H), k135 ≤ (S (Int.toNat (k18)) : Int) → (0 ≤ k135 ∧ k135 ≤ 12) → (0 ≤ n139 ∧ n139 ≤ 12) ∧ (0 ≤ a140 ∧ a140 ≤ 48) ∧ (0 ≤ m141 ∧ m141 ≤ 1025) → IMF n139 a140 m141 h136 → FM g h136 → ZE [96, 97, 98, 99, 100, 101, 102, 103, 104, 105, 106, 107, 108, 109, 110, 111, 112, 113, 114, 115, 116, 117] [27, 28, 29, 50, 51, 52, 53] h h136 → MGI (U (Int.toNat (k18))) (hA h20 117) (Int.toNat (k135)) (hA h136 117) → (12 - k135).toNat = m145 → av_wp none cd_185 38 [some (.inr (.inr (.inl (some (77))))), some (.inl x), some (.inl k18), some (.inl k135)] [] h136 Q := by
                intro m145
                induction m145 using Nat.strongRecOn with
                | _ m145 I147 =>
                  intro k135 n139 a140 m141 h136 g149 g150 g142 I137 F138 Z143 X144 e148
                  refine av_wp_sqF ck_185 2 (pc' := 40) (lv' := [some (.inr (.inr (.inl (some (77))))), some (.inl x), some (.inl k18), some (.inl k135)]) (st' := [.inr (.inr (.inl (some (77)))), .inl k135]) (h' := h136) rfl ?_
                  refine wq_gr (p' := 43) (ck_185 _ _ rfl) rfl (congrArg Prod.fst (ly_k I137.1.1.1 77 rfl)) rfl (ly_g I137.1.1.1 77 3 81 rfl) ?_
                  refine av_wp_sqF ck_185 1 (pc' := 44) (lv' := [some (.inr (.inr (.inl (some (77))))), some (.inl x), some (.inl k18), some (.inl k135)]) (st' := [.inl k18, .inr (.inr (.inl (some (81)))), .inl k135]) (h' := h136) rfl ?_
                  obtain ⟨v151, e152⟩ : ∃ v, hA h136 81 (Int.toNat (k18)) = v := ⟨_, rfl⟩
                  have g153 := im_many I137.1.1 (Int.toNat (k18))
                  rw [e152] at g153
                  have y154 : v151 = (S (Int.toNat (k18)) : Int) := e152.symm.trans ((congrFun (F138.2.2.2.2.2.2 81 rfl) _).trans (RC (Int.toNat (k18)) (by omega)).1)
                  refine wq_al (p' := 45) (n := 80) (ck_185 _ _ rfl) rfl (ly_k I137.1.1.1 81 rfl) (by omega) (e152) ?_
                  refine wq_k2 (p' := 48) (ck_185 _ _ rfl) rfl ⟨by omega, by omega⟩ ⟨by omega, by omega⟩ (fun c156 => ?_) (fun c157 => ?_)
                  · have c156 : v151 ≤ k135 := c156
                    refine av_wp_sqF ck_185 2 (pc' := 32) (lv' := [some (.inr (.inr (.inl (some (77))))), some (.inl x), some (.inl (k18 + (-1))), some (.inl k135)]) (st' := []) (h' := h136) rfl ?_
                    exact I31 _ (by omega) ((k18 + (-1))) (some (.inl k135)) (n139) (a140) (m141) h136 rfl (by omega) (by omega) (by omega) I137 F138 Z143 (show NDR U S (Int.toNat x) (k18 - 1) _ from NDR_s X28 (by omega) (by omega) (fun q hq => by have := (WG (Int.toNat (k18)) (by omega) q hq).2; omega) X144 (k := (Int.toNat (k135))) (by omega) (Or.inl (by omega))) rfl
                  · have c157 : k135 < v151 := c157
                    refine av_wp_sqF ck_185 1 (pc' := 49) (lv' := [some (.inr (.inr (.inl (some (77))))), some (.inl x), some (.inl k18), some (.inl k135)]) (st' := [.inr (.inr (.inl (some (77))))]) (h' := h136) rfl ?_
                    refine wq_gr (p' := 52) (ck_185 _ _ rfl) rfl (congrArg Prod.fst (ly_k I137.1.1.1 77 rfl)) rfl (ly_g I137.1.1.1 77 55 117 rfl) ?_
                    refine av_wp_sqF ck_185 1 (pc' := 53) (lv' := [some (.inr (.inr (.inl (some (77))))), some (.inl x), some (.inl k18), some (.inl k135)]) (st' := [.inl k18, .inr (.inr (.inl (some (117))))]) (h' := h136) rfl ?_
                    obtain ⟨v158, e159⟩ : ∃ v, hA h136 117 (Int.toNat (k18)) = v := ⟨_, rfl⟩
                    have g162 := X144.2 (Int.toNat (k18)) (by omega)
                    rw [e159] at g162
                    refine wq_bl (p' := 54) (n := 16) (ck_185 _ _ rfl) rfl ((Or.inr (ly_k I137.1.1.1 117 rfl))) (by omega) (e159) ?_
                    refine wq_k1 (p' := 57) (ck_185 _ _ rfl) rfl ⟨by omega, by omega⟩ (fun c163 => ?_) (fun c164 => ?_)
                    · have c163 : v158 = (0) := c163
                      refine av_wp_sqF ck_185 2 (pc' := 32) (lv' := [some (.inr (.inr (.inl (some (77))))), some (.inl x), some (.inl (k18 + (-1))), some (.inl k135)]) (st' := []) (h' := h136) rfl ?_
                      exact I31 _ (by omega) ((k18 + (-1))) (some (.inl k135)) (n139) (a140) (m141) h136 rfl (by omega) (by omega) (by omega) I137 F138 Z143 (show NDR U S (Int.toNat x) (k18 - 1) _ from NDR_s X28 (by omega) (by omega) (fun q hq => by have := (WG (Int.toNat (k18)) (by omega) q hq).2; omega) X144 (k := (Int.toNat (k135))) (by omega) (Or.inr (e159.trans (by omega)))) rfl
                    · have c164 : v158 ≠ (0) := c164
                      refine av_wp_sqF ck_185 1 (pc' := 58) (lv' := [some (.inr (.inr (.inl (some (77))))), some (.inl x), some (.inl k18), some (.inl k135)]) (st' := [.inr (.inr (.inl (some (77))))]) (h' := h136) rfl ?_
                      refine wq_gr (p' := 61) (ck_185 _ _ rfl) rfl (congrArg Prod.fst (ly_k I137.1.1.1 77 rfl)) rfl (ly_g I137.1.1.1 77 10 88 rfl) ?_
                      refine av_wp_sqF ck_185 5 (pc' := 67) (lv' := [some (.inr (.inr (.inl (some (77))))), some (.inl x), some (.inl k18), some (.inl k135)]) (st' := [.inl (((12) * k18) + k135), .inr (.inr (.inl (some (88))))]) (h' := h136) rfl ?_
                      obtain ⟨v165, e166⟩ : ∃ v, hA h136 88 (Int.toNat ((((12) * k18) + k135))) = v := ⟨_, rfl⟩
                      have g167 : -1 ≤ hA h136 88 (Int.toNat ((((12) * k18) + k135))) ∧ hA h136 88 (Int.toNat ((((12) * k18) + k135))) ≤ 15 := im_m I137.1.1 88 (by decide) (by decide) _
                      rw [e166] at g167
                      have y168 : U (Int.toNat (k18)) (21 * (Int.toNat (k135)) + 6) = v165 := ((RC (Int.toNat (k18)) (by omega)).2.1 (Int.toNat (k135)) (by omega)).1.2.2.2.2.2.2.symm.trans ((congrArg (hA g 88) (by omega)).trans ((congrFun (F138.2.2.2.2.2.2 88 rfl) _).symm.trans e166))
                      refine wq_al (p' := 68) (n := 960) (ck_185 _ _ rfl) rfl (ly_k I137.1.1.1 88 rfl) (by omega) (e166) ?_
                      refine wq_k1 (p' := 71) (ck_185 _ _ rfl) rfl ⟨by omega, by omega⟩ (fun c170 => ?_) (fun c171 => ?_)
                      · have c170 : v165 < (0) := c170
                        refine av_wp_sqF ck_185 2 (pc' := 38) (lv' := [some (.inr (.inr (.inl (some (77))))), some (.inl x), some (.inl k18), some (.inl (k135 + (1)))]) (st' := []) (h' := h136) rfl ?_
                        exact I147 _ (by omega) ((k135 + (1))) (n139) (a140) (m141) h136 (by omega) (by omega) (by omega) I137 F138 Z143 (by rw [show Int.toNat ((k135 + (1))) = Int.toNat (k135) + 1 by omega]; exact MGI_n X144 y168 (by omega)) rfl
                      · have c171 : (0) ≤ v165 := c171
                        refine av_wp_sqF ck_185 1 (pc' := 72) (lv' := [some (.inr (.inr (.inl (some (77))))), some (.inl x), some (.inl k18), some (.inl k135)]) (st' := [.inr (.inr (.inl (some (77))))]) (h' := h136) rfl ?_
                        refine wq_gr (p' := 75) (ck_185 _ _ rfl) rfl (congrArg Prod.fst (ly_k I137.1.1.1 77 rfl)) rfl (ly_g I137.1.1.1 77 55 117 rfl) ?_
                        refine av_wp_sqF ck_185 1 (pc' := 76) (lv' := [some (.inr (.inr (.inl (some (77))))), some (.inl x), some (.inl k18), some (.inl k135)]) (st' := [.inr (.inr (.inl (some (77)))), .inr (.inr (.inl (some (117))))]) (h' := h136) rfl ?_
                        refine wq_gr (p' := 79) (ck_185 _ _ rfl) rfl (congrArg Prod.fst (ly_k I137.1.1.1 77 rfl)) rfl (ly_g I137.1.1.1 77 10 88 rfl) ?_
                        refine av_wp_sqF ck_185 5 (pc' := 85) (lv' := [some (.inr (.inr (.inl (some (77))))), some (.inl x), some (.inl k18), some (.inl k135)]) (st' := [.inl (((12) * k18) + k135), .inr (.inr (.inl (some (88)))), .inr (.inr (.inl (some (117))))]) (h' := h136) rfl ?_
                        obtain ⟨v172, e173⟩ : ∃ v, hA h136 88 (Int.toNat ((((12) * k18) + k135))) = v := ⟨_, rfl⟩
                        have g174 : -1 ≤ hA h136 88 (Int.toNat ((((12) * k18) + k135))) ∧ hA h136 88 (Int.toNat ((((12) * k18) + k135))) ≤ 15 := im_m I137.1.1 88 (by decide) (by decide) _
                        rw [e173] at g174
                        have y175 : U (Int.toNat (k18)) (21 * (Int.toNat (k135)) + 6) = v172 := ((RC (Int.toNat (k18)) (by omega)).2.1 (Int.toNat (k135)) (by omega)).1.2.2.2.2.2.2.symm.trans ((congrArg (hA g 88) (by omega)).trans ((congrFun (F138.2.2.2.2.2.2 88 rfl) _).symm.trans e173))
                        refine wq_al (p' := 86) (n := 960) (ck_185 _ _ rfl) rfl (ly_k I137.1.1.1 88 rfl) (by omega) (e173) ?_
                        refine av_wp_sqF ck_185 1 (pc' := 87) (lv' := [some (.inr (.inr (.inl (some (77))))), some (.inl x), some (.inl k18), some (.inl k135)]) (st' := [.inl (1), .inl v172, .inr (.inr (.inl (some (117))))]) (h' := h136) rfl ?_
                        refine xm_zs (p' := 88) (l := 16) rfl rfl I137 F138 (ly_k I137.1.1.1 117 rfl) (by omega) (by omega) (by omega) (fun h177 I178 F179 e180 => ?_)
                        have Z181 := ZE_a Z143 e180 rfl
                        refine av_wp_sqF ck_185 2 (pc' := 38) (lv' := [some (.inr (.inr (.inl (some (77))))), some (.inl x), some (.inl k18), some (.inl (k135 + (1)))]) (st' := []) (h' := h177) rfl ?_
                        exact I147 _ (by omega) ((k135 + (1))) (n139) (a140) (m141) h177 (by omega) (by omega) (by omega) I178 F179 Z181 (by rw [show Int.toNat ((k135 + (1))) = Int.toNat (k135) + 1 by omega, hA_eu e180]; exact MGI_s X144 y175 (by omega)) rfl
              exact L146 _ ((0)) (n23) (a24) (m25) h20 (by omega) (by omega) (by omega) I21 F22 Z27 (MGI_0 X28.1) rfl
        exact L30 _ (x) (none) (n5) (a6) (m7) h2 rfl (by omega) (by omega) (by omega) I3 F4 Z9 (NDR_0 (by omega) (by omega) (FI_e X10 (by omega))) rfl
      · have c17 : k1 < (16) := c17
        refine av_wp_sqF ck_185 1 (pc' := 9) (lv' := [some (.inr (.inr (.inl (some (77))))), some (.inl x), some (.inl k1), none]) (st' := [.inr (.inr (.inl (some (77))))]) (h' := h2) rfl ?_
        refine wq_gr (p' := 12) (ck_185 _ _ rfl) rfl (congrArg Prod.fst (ly_k I3.1.1.1 77 rfl)) rfl (ly_g I3.1.1.1 77 55 117 rfl) ?_
        refine av_wp_sqF ck_185 3 (pc' := 15) (lv' := [some (.inr (.inr (.inl (some (77))))), some (.inl x), some (.inl k1), none]) (st' := [.inl x, .inl k1, .inl k1, .inr (.inr (.inl (some (117))))]) (h' := h2) rfl ?_
        refine wq_k2 (p' := 18) (ck_185 _ _ rfl) rfl ⟨by omega, by omega⟩ ⟨by omega, by omega⟩ (fun c182 => ?_) (fun c183 => ?_)
        · have c182 : k1 ≠ x := c182
          refine av_wp_sqF ck_185 1 (pc' := 23) (lv' := [some (.inr (.inr (.inl (some (77))))), some (.inl x), some (.inl k1), none]) (st' := [.inl (0), .inl k1, .inr (.inr (.inl (some (117))))]) (h' := h2) rfl ?_
          refine xm_zs (p' := 24) (l := 16) rfl rfl I3 F4 (ly_k I3.1.1.1 117 rfl) (by omega) (by omega) (by omega) (fun h184 I185 F186 e187 => ?_)
          have Z188 := ZE_a Z9 e187 rfl
          refine av_wp_sqF ck_185 2 (pc' := 2) (lv' := [some (.inr (.inr (.inl (some (77))))), some (.inl x), some (.inl (k1 + (1))), none]) (st' := []) (h' := h184) rfl ?_
          exact I13 _ (by omega) ((k1 + (1))) (n5) (a6) (m7) h184 (by omega) (by omega) I185 F186 Z188 (by rw [hA_eu e187]; exact FI_s X10 (by omega) (by show ((0) : Int) = if Int.toNat (k1) = (Int.toNat x) then 1 else 0; split <;> omega)) rfl
        · have c183 : k1 = x := c183
          refine av_wp_sqF ck_185 2 (pc' := 23) (lv' := [some (.inr (.inr (.inl (some (77))))), some (.inl x), some (.inl k1), none]) (st' := [.inl (1), .inl k1, .inr (.inr (.inl (some (117))))]) (h' := h2) rfl ?_
          refine xm_zs (p' := 24) (l := 16) rfl rfl I3 F4 (ly_k I3.1.1.1 117 rfl) (by omega) (by omega) (by omega) (fun h189 I190 F191 e192 => ?_)
          have Z193 := ZE_a Z9 e192 rfl
          refine av_wp_sqF ck_185 2 (pc' := 2) (lv' := [some (.inr (.inr (.inl (some (77))))), some (.inl x), some (.inl (k1 + (1))), none]) (st' := []) (h' := h189) rfl ?_
          exact I13 _ (by omega) ((k1 + (1))) (n5) (a6) (m7) h189 (by omega) (by omega) I190 F191 Z193 (by rw [hA_eu e192]; exact FI_s X10 (by omega) (by show ((1) : Int) = if Int.toNat (k1) = (Int.toNat x) then 1 else 0; split <;> omega)) rfl
  exact L12 _ ((0)) (n) (a) (m) h (by omega) (by omega) I F Z (FI_0 (fun j _ => rfl)) rfl
end
section
/-! THE REFERENCE LOOKS AT A CASE BY A LAW -/
theorem cbv_d (u : Nat → Int) (s : Nat) : (1024 < cbf u s ∧ cbv u s = -1) ∨ (cbf u s ≤ 1024 ∧ cbv u s = cbf u s) := by
  unfold cbv
  split
  · next z => exact Or.inl ⟨z, rfl⟩
  · next z => exact Or.inr ⟨by omega, rfl⟩
/-- cases and laws of the reference as pictures -/
def RXX (g : av_H) (U : Nat → Nat → Int) (S : Nat → Nat) (ro : Nat → Nat → Int) : Prop := (∀ c : Nat, (c : Int) < hA g 78 0 → RCA (hA g) U S c) ∧ (∀ c l : Nat, (c : Int) < hA g 78 0 → (l : Int) < hA g 79 0 → RWF (U c) (ro l) (S c)) ∧ (∀ c : Nat, (c : Int) < hA g 78 0 → ∀ k, k < S c → -1 ≤ U c (21 * k + 6) ∧ U c (21 * k + 6) < (c : Int)) ∧ (∀ l : Nat, (l : Int) < hA g 79 0 → ∀ j, j < 13 → lyb (hA g 93) (l : Int) j = ro l j) ∧ (∀ l j : Int, 0 ≤ l → l < hA g 79 0 → 0 ≤ j → j < 13 → -2 ≤ hA g 93 (Int.toNat (14 * l + j)) ∧ hA g 93 (Int.toNat (14 * l + j)) ≤ 999) ∧ (∀ c j : Int, 0 ≤ c → c < hA g 80 0 → 0 ≤ j → j < 13 → -2 ≤ hA g 93 (Int.toNat (112 + 14 * c + j)) ∧ hA g 93 (Int.toNat (112 + 14 * c + j)) ≤ 999)
/-- what the rules say of a case's barred ones -/
noncomputable def bxx (U : Nat → Nat → Int) (S : Nat → Nat) (ro : Nat → Int) (c : Nat) : Nat → Int := brv (U c) (srt U S ro c)
theorem cy_159 {g h : av_H} {n a m : Int} (I : IMF n a m h) (F : FM g h) (g8 : 0 ≤ hA g 79 0 ∧ hA g 79 0 ≤ 8) (g6 : 0 ≤ hA g 80 0 ∧ hA g 80 0 ≤ 6) {U : Nat → Nat → Int} {S : Nat → Nat} {ro : Nat → Nat → Int} (R : RXX g U S ro) (l : Int) (ql : 0 ≤ l ∧ l < hA g 79 0) {Q : Option av_V → av_H → Prop} (hq : ∀ h', IMF n a m h' → FM g h' → (∀ j, j < 13 → hA h' 95 j = ro (Int.toNat l) j) → ZE [95] [] h h' → Q none h') : av_wp none cd_159 0 [some (.inr (.inr (.inl (some (77))))), some (.inl l), some (.inl (0)), none, none] [] h Q := by
  refine cx_159 I F l (by omega) 0 (fun j h1 h2 => R.2.2.2.2.1 l j ql.1 ql.2 h1 h2) (fun c j h1 h2 h3 h4 => R.2.2.2.2.2 c j h1 h2 h3 h4) (fun h' I' F' e Z => hq h' I' F' (fun j hj => ?_) Z)
  have y := R.2.2.2.1 (Int.toNat l) (by omega) j hj
  rw [Int.toNat_of_nonneg ql.1] at y
  rw [e j hj, lyf_z _ _ (by omega)]
  exact y
theorem cy_185 {g h : av_H} {n a m : Int} (I : IMF n a m h) (F : FM g h) {U : Nat → Nat → Int} {S : Nat → Nat} {ro : Nat → Nat → Int} (R : RXX g U S ro) (g16 : hA g 78 0 ≤ 16) (x : Int) (qx : 0 ≤ x ∧ x < hA g 78 0) (l : Int) (ql : 0 ≤ l ∧ l < hA g 79 0) (RO : ∀ j, j < 13 → hA h 95 j = ro (Int.toNat l) j) {Q : Option av_V → av_H → Prop} (hq : ∀ n' a' m' h', n' = (S (Int.toNat x) : Int) → m' = cbf (U (Int.toNat x)) (S (Int.toNat x)) → RBA (U (Int.toNat x)) (ro (Int.toNat l)) (bxx U S (ro (Int.toNat l)) (Int.toNat x)) (S (Int.toNat x)) h' → IMF n' a' m' h' → FM g h' → Q none h') : av_wp none cd_185 0 [some (.inr (.inr (.inl (some (77))))), some (.inl x), none, none] [] h Q :=
  cx_185 I F x (by omega) qx.2 (fun c hc => R.1 c (by omega)) (fun c hc => R.2.1 c (Int.toNat l) (by omega) (by omega)) (fun c hc => R.2.2.1 c (by omega)) RO (fun n' a' m' h' e1 e2 ra _ I' F' => hq n' a' m' h' e1 e2 ra I' F')
end
section
/-! WHAT THE LOOKS ANSWER -/
/-- there is such a case, law and combo -/
def okx (U : Nat → Nat → Int) (S : Nat → Nat) (n L k l x : Int) : Prop := (0 ≤ k ∧ k < n) ∧ (0 ≤ l ∧ l < L) ∧ (0 ≤ x ∧ x < cbv (U (Int.toNat k)) (S (Int.toNat k)))
def RSP (ok : Prop) (d e v : Int) : Prop := (ok ∧ v = e) ∨ (¬ ok ∧ v = d)
/-- the bargain of case k by law l in combo x -/
noncomputable def bgx (U : Nat → Nat → Int) (S : Nat → Nat) (ro : Nat → Nat → Int) (k l x : Int) : T3 := bgn (U (Int.toNat k)) (ro (Int.toNat l)) (bxx U S (ro (Int.toNat l)) (Int.toNat k)) (S (Int.toNat k)) x
/-- judge -/
def jdv (b t y z : Int) : Int := if y = -2 then (if t = 9999 then -1 else 0) else if t = 9999 then 0 else if y ≠ b then 1 else if z = t then -1 else 2
/-- open -/
noncomputable def opx (u ro bar : Nat → Int) (s : Nat) (x : Int) (k : Nat) (w : Int) : Int := if w = 0 then o5 ro (arr u ro bar x) k else if w = 1 then (eav u ro (arr u ro bar x) s k s).1 else (eav u ro (arr u ro bar x) s k s).2.1
end
