/-! THE REFERENCE WITH A CASE BROUGHT -/
/-- the case as it was brought, the barred ones bar -/
def LSB (u ro bar : Nat → Int) (s : Nat) (A : Nat → Nat → Int) : Prop := (∀ k, k < s → (A 96 k = u (21 * k + 0) ∧ A 97 k = u (21 * k + 4) ∧ A 99 k = u (21 * k + 5) ∧ A 100 k = u (21 * k + 3) ∧ A 101 k = u (21 * k + 1) ∧ A 102 k = u (21 * k + 2) ∧ A 103 k = bar k) ∧ (∀ j, j < 5 → A 104 (5 * k + j) = u (21 * k + 10 + j))) ∧ ∀ j, j < 13 → A 95 j = ro j
theorem arr_2 {u ro bar : Nat → Int} {x : Int} {k : Nat} : arr u ro bar x 2 k = ofv u ro k := rfl
theorem arr_3 {u ro bar : Nat → Int} {x : Int} {k : Nat} : arr u ro bar x 3 k = ysv u ro k := rfl
theorem arr_4 {u ro bar : Nat → Int} {x : Int} {k : Nat} : arr u ro bar x 4 k = bar k := rfl
theorem LSB_t {u ro bar : Nat → Int} {s : Nat} {A : Nat → Nat → Int} (z : LSB u ro bar s A) (x : Int) : LST u ro (arr u ro bar x) s A := ⟨fun k hk => by
  rw [arr_2, arr_3, arr_4]
  exact ⟨(z.1 k hk).1, (z.1 k hk).2, rfl, rfl⟩, z.2⟩
theorem HX_arr {u ro bar : Nat → Int} {s : Nat} {x : Int} (hs : s ≤ 12) : HX u s x (arr u ro bar x) := fun q hq i _ => arr_0 (by omega)
/-- what holds of case and rules -/
def RWF (u ro : Nat → Int) (s : Nat) : Prop := UW u s ∧ RLW ro ∧ (∀ j, u j ≤ 2000 ∨ j % 21 = 20) ∧ (∀ j, -1 ≤ u j) ∧ (∀ j, -2 ≤ ro j ∧ ro j ≤ 999) ∧ (∀ x : Int, 0 ≤ x → x ≤ 1023 → ∀ k, k < s → ∀ i, i < 3 → -1 ≤ hrv u x k i ∧ hrv u x k i ≤ 5000) ∧ s ≤ 12
theorem HBd_arr {u ro bar : Nat → Int} {s : Nat} {x : Int} (W : RWF u ro s) (h0 : 0 ≤ x) (h1 : x ≤ 1023) : HBd s (arr u ro bar x) := fun k hk i hi => by
  have s12 := W.2.2.2.2.2.2
  rw [arr_0 (by omega)]
  exact W.2.2.2.2.2.1 x h0 h1 k hk i hi
/-- brought -/
def RBB (u ro bar : Nat → Int) (s : Nat) (h : av_H) : Prop := LSB u ro bar s (hA h) ∧ LH2 u s (hA h 105) (hA h 106) (hA h 98)
/-- and what is asked is found -/
def RBA (u ro bar : Nat → Int) (s : Nat) (h : av_H) : Prop := RBB u ro bar s h ∧ AQL (cmv (hA h 105) (hA h 106) (hA h 98)) (4 * s) h
theorem RBB_z {u ro bar : Nat → Int} {s : Nat} {g h : av_H} (x : RBB u ro bar s g) (e : ∀ q, 95 ≤ q → q ≤ 106 → hA h q = hA g q) : RBB u ro bar s h := by
  unfold RBB LSB
  rw [e 95 (by omega) (by omega), e 96 (by omega) (by omega), e 97 (by omega) (by omega), e 98 (by omega) (by omega), e 99 (by omega) (by omega), e 100 (by omega) (by omega), e 101 (by omega) (by omega), e 102 (by omega) (by omega), e 103 (by omega) (by omega), e 104 (by omega) (by omega), e 105 (by omega) (by omega), e 106 (by omega) (by omega)]
  exact x
theorem ZE_low {L K : List Nat} {g h : av_H} (Z : ZE L K g h) (m : ∀ q, 95 ≤ q → q ≤ 106 → L.elem q = false) : ∀ q, 95 ≤ q → q ≤ 106 → hA h q = hA g q := fun q h1 h2 => Z.1 q (m q h1 h2)
theorem elem_12 {P : Nat → Prop} (h : P 95 ∧ P 96 ∧ P 97 ∧ P 98 ∧ P 99 ∧ P 100 ∧ P 101 ∧ P 102 ∧ P 103 ∧ P 104 ∧ P 105 ∧ P 106) : ∀ q, 95 ≤ q → q ≤ 106 → P q := fun q h1 h2 => by
  obtain ⟨a, b, c, d, e, f, g, i, j, k, l, m⟩ := h
  rcases (show q = 95 ∨ q = 96 ∨ q = 97 ∨ q = 98 ∨ q = 99 ∨ q = 100 ∨ q = 101 ∨ q = 102 ∨ q = 103 ∨ q = 104 ∨ q = 105 ∨ q = 106 by omega) with z | z | z | z | z | z | z | z | z | z | z | z <;> subst z <;> assumption
theorem RBB_1 {u ro bar : Nat → Int} {s : Nat} {g h : av_H} (x : RBB u ro bar s g) (Z : ZE [107, 108] [28, 29] g h) : RBB u ro bar s h := RBB_z x (ZE_low Z (elem_12 ⟨rfl, rfl, rfl, rfl, rfl, rfl, rfl, rfl, rfl, rfl, rfl, rfl⟩))
theorem RBB_2 {u ro bar : Nat → Int} {s : Nat} {g h : av_H} (x : RBB u ro bar s g) (Z : ZE [109, 110, 111, 112, 113, 114, 115] [50, 51, 52, 53] g h) : RBB u ro bar s h := RBB_z x (ZE_low Z (elem_12 ⟨rfl, rfl, rfl, rfl, rfl, rfl, rfl, rfl, rfl, rfl, rfl, rfl⟩))
theorem RBA_2 {u ro bar : Nat → Int} {s : Nat} {g h : av_H} (x : RBA u ro bar s g) (Z : ZE [109, 110, 111, 112, 113, 114, 115] [50, 51, 52, 53] g h) : RBA u ro bar s h := ⟨RBB_2 x.1 Z, by
  unfold AQL
  rw [Z.1 105 rfl, Z.1 106 rfl, Z.1 98 rfl, Z.1 107 rfl, Z.1 108 rfl, Z.2 28 rfl]
  exact x.2⟩
theorem cmf_cb {u : Nat → Int} {s : Nat} {lo hi ls : Nat → Int} (V : ∀ t, t < 4 * s → one1 (cmv lo hi ls) t = dvu u t) : ∀ k, k ≤ s → cmf lo hi ls (4 * k) = cbf u k := by
  intro k
  induction k with
  | zero => intro _; rfl
  | succ k ih =>
    intro hk
    have i1 := ih (by omega)
    have c0 := cmf_c (lo := lo) (hi := hi) (ls := ls) (4 * k)
    have c1 := cmf_c (lo := lo) (hi := hi) (ls := ls) (4 * k + 1)
    have c2 := cmf_c (lo := lo) (hi := hi) (ls := ls) (4 * k + 2)
    have c3 := cmf_c (lo := lo) (hi := hi) (ls := ls) (4 * k + 3)
    have g : ∀ j, j < 4 → one1 (cmv lo hi ls) (4 * k + j) = mvu u k j := fun j hj => (V _ (by omega)).trans (dvu_i hj)
    have hm : ∀ j, 1 ≤ mvu u k j := fun j => mx1_p _
    have h0 := hm 0
    have h1 := hm 1
    have h2 := hm 2
    have b0 := c0.1.1
    have p0 : 1 ≤ cmf lo hi ls (4 * k) * mvu u k 0 := by
      have q : 1 * 1 ≤ cmf lo hi ls (4 * k) * mvu u k 0 := Int.mul_le_mul b0 h0 (by omega) (by omega)
      omega
    have p1 : 1 ≤ cmf lo hi ls (4 * k) * mvu u k 0 * mvu u k 1 := by
      have q : 1 * 1 ≤ cmf lo hi ls (4 * k) * mvu u k 0 * mvu u k 1 := Int.mul_le_mul p0 h1 (by omega) (by omega)
      omega
    have p2 : 1 ≤ cmf lo hi ls (4 * k) * mvu u k 0 * mvu u k 1 * mvu u k 2 := by
      have q : 1 * 1 ≤ cmf lo hi ls (4 * k) * mvu u k 0 * mvu u k 1 * mvu u k 2 := Int.mul_le_mul p1 h2 (by omega) (by omega)
      omega
    have e : cmf lo hi ls (4 * (k + 1)) = cap (cmf lo hi ls (4 * k) * mvu u k 0 * mvu u k 1 * mvu u k 2 * mvu u k 3) := by
      rw [show 4 * (k + 1) = 4 * k + 3 + 1 by omega, c3.2, show 4 * k + 3 = 4 * k + 2 + 1 by omega, c2.2, show 4 * k + 2 = 4 * k + 1 + 1 by omega, c1.2, c0.2, show one1 (cmv lo hi ls) (4 * k) = mvu u k 0 from g 0 (by omega), g 1 (by omega), show 4 * k + 1 + 1 = 4 * k + 2 by omega, g 2 (by omega), show 4 * k + 2 + 1 = 4 * k + 3 by omega, g 3 (by omega), cap_m p0 h1, cap_m p1 h2, cap_m p2 (hm 3)]
    rw [e, i1]
    show _ = mn2 (cbf u k * (1 * mvu u k 0 * mvu u k 1 * mvu u k 2 * mvu u k 3)) 1025
    rw [Int.one_mul, ← Int.mul_assoc, ← Int.mul_assoc, ← Int.mul_assoc]
    unfold cap mn2
    split <;> split <;> omega
theorem cy_163 {g h : av_H} {n : Int} (I : IM h) (hn : hF h 77 27 = n) (F : FM g h) {u ro bar : Nat → Int} {s : Nat} (en : n = (s : Int)) (B : RBB u ro bar s h) {Q : Option av_V → av_H → Prop} (hq : ∀ a m h', (1 ≤ m ∧ m = cbf u s) → RBA u ro bar s h' → ZE [107, 108] [28, 29] h h' → IMF n a m h' → FM g h' → Q none h') : av_wp none cd_163 0 [some (.inr (.inr (.inl (some (77))))), none, none, none] [] h Q := by
  refine cx_163 I hn F (fun a m h' em al Z I' F' => ?_)
  have e4 : (4 * n).toNat = 4 * s := by omega
  rw [e4] at em al
  refine hq a m h' ⟨em.1, em.2.trans (cmf_cb (fun t ht => LH2_v B.2 ht) s (Nat.le_refl s))⟩ ⟨RBB_1 B Z, ?_⟩ Z I' F'
  rw [Z.1 105 rfl, Z.1 106 rfl, Z.1 98 rfl]
  exact al
theorem cy_181 {g h : av_H} {n a m : Int} (I : IMF n a m h) (F : FM g h) {u ro bar : Nat → Int} {s : Nat} (en : n = (s : Int)) (B : RBA u ro bar s h) (W : RWF u ro s) (x : Int) (qx : 0 ≤ x ∧ x ≤ 1023) {Q : Option av_V → av_H → Prop} (hq : ∀ h', IMF n a m h' → FM g h' → ZE [109, 110, 111, 112, 113, 114, 115] [50, 51, 52, 53] h h' → RBA u ro bar s h' → FOI u ro (arr u ro bar x) s s (hA h') → BRR (bgn u ro bar s x) h' → LR u ro (arr u ro bar x) s (hA h') → Q none h') : av_wp none cd_181 0 [some (.inr (.inr (.inl (some (77))))), some (.inl x)] [] h Q := by
  refine cx_181 I F en (LSB_t B.1.1 x) B.1.2 (by rw [show Int.toNat (4 * n) = 4 * s by omega]; exact B.2) W.1 W.2.1 (HBd_arr W qx.1 qx.2) W.2.2.1 W.2.2.2.1 W.2.2.2.2.1 x qx (HX_arr W.2.2.2.2.2.2) (fun h' I' F' Z fo br lr => ?_)
  exact hq h' I' F' Z (RBA_2 B Z) fo br lr
/-! what bars in the reference -/
def bbr (A : Nat → Nat → Int) (c k : Nat) : Int := if 0 ≤ A 88 (12 * c + k) ∧ A 116 (A 88 (12 * c + k)).toNat = 0 then 1 else 0
def BBR (A : Nat → Nat → Int) (c e : Nat) (h : av_H) : Prop := ∀ i, i < e → hA h 103 i = bbr A c i
theorem BBR_0 {A : Nat → Nat → Int} {c : Nat} {h : av_H} : BBR A c 0 h := fun i hi => absurd hi (by omega)
theorem BBR_e {A : Nat → Nat → Int} {c e e' : Nat} {h : av_H} (x : BBR A c e h) (he : e' ≤ e) : BBR A c e' h := fun i hi => x i (by omega)
theorem BBR_n {A : Nat → Nat → Int} {c e : Nat} {h : av_H} {q j : Nat} {v : Int} (x : BBR A c e h) (hq : (103 : Nat) ≠ q) : BBR A c e (hwA h q j v) := fun i hi => by
  rw [hA_ne hq]
  exact x i hi
theorem BBR_s {A : Nat → Nat → Int} {c e : Nat} {h : av_H} {j : Nat} {v : Int} (x : BBR A c e h) (hj : j = e) (hv : v = bbr A c e) : BBR A c (e + 1) (hwA h 103 j v) := fun i hi => by
  rw [hA_wu]
  by_cases z : i = j
  · rw [z, u1_eq, hj]
    exact hv
  · rw [u1_ne z]
    exact x i (by omega)
/-- the reference's cases as pictures -/
def RCA (A : Nat → Nat → Int) (U : Nat → Nat → Int) (S : Nat → Nat) (c : Nat) : Prop := A 81 c = (S c : Int) ∧ (∀ k, k < S c → (A 82 (12 * c + k) = U c (21 * k + 0) ∧ A 86 (12 * c + k) = U c (21 * k + 4) ∧ A 87 (12 * c + k) = U c (21 * k + 5) ∧ A 85 (12 * c + k) = U c (21 * k + 3) ∧ A 83 (12 * c + k) = U c (21 * k + 1) ∧ A 84 (12 * c + k) = U c (21 * k + 2) ∧ A 88 (12 * c + k) = U c (21 * k + 6)) ∧ (∀ j, j < 5 → A 90 (5 * (12 * c) + (5 * k + j)) = U c (21 * k + 10 + j))) ∧ LH (U c) (S c) (fun i => A 91 (3 * (12 * c) + i)) (fun i => A 92 (3 * (12 * c) + i)) (fun i => A 89 (1 * (12 * c) + i))
theorem LH_cg {u : Nat → Int} {s : Nat} {lo hi ls lo' hi' ls' : Nat → Int} (x : LH u s lo hi ls) (e1 : ∀ i, i < 3 * s → lo' i = lo i) (e2 : ∀ i, i < 3 * s → hi' i = hi i) (e3 : ∀ i, i < s → ls' i = ls i) : LH u s lo' hi' ls' := fun k hk => by
  have h := x k hk
  refine ⟨fun j hj => ?_, ?_, h.2.2⟩
  · rw [e1 (3 * k + j) (by omega), e2 (3 * k + j) (by omega)]
    exact h.1 j hj
  · rw [e3 k hk]
    exact h.2.1
theorem RBB_of {U : Nat → Nat → Int} {S : Nat → Nat} {c : Nat} {n : Int} {g h : av_H} {ro bar : Nat → Int} (R : RCA (hA g) U S c) (hn : hA g 81 c = n) (b : BC c (fun a => bmul a * n.toNat) (hA g) h) (hb : ∀ k, k < S c → hA h 103 k = bar k) (hr : ∀ j, j < 13 → hA h 95 j = ro j) : RBB (U c) ro bar (S c) h := by
  have en : n.toNat = S c := by
    have := R.1
    omega
  rw [en] at b
  have w : ∀ a, 96 ≤ a → a ≤ 106 → bmul a = 1 → ∀ k, k < S c → hA h a k = hA g (bsrc a) (12 * c + k) := fun a h1 h2 h3 k hk => by
    have := b a h1 h2 k (by show k < bmul a * S c; rw [h3]; omega)
    rw [this, h3, Nat.one_mul]
  refine ⟨⟨fun k hk => ⟨?_, fun j hj => ?_⟩, hr⟩, LH2_of (LH_cg R.2.2 (fun i hi => ?_) (fun i hi => ?_) (fun i hi => ?_))⟩
  · have r := (R.2.1 k hk).1
    exact ⟨(w 96 (by omega) (by omega) rfl k hk).trans r.1, (w 97 (by omega) (by omega) rfl k hk).trans r.2.1, (w 99 (by omega) (by omega) rfl k hk).trans r.2.2.1, (w 100 (by omega) (by omega) rfl k hk).trans r.2.2.2.1, (w 101 (by omega) (by omega) rfl k hk).trans r.2.2.2.2.1, (w 102 (by omega) (by omega) rfl k hk).trans r.2.2.2.2.2.1, hb k hk⟩
  · exact (b 104 (by omega) (by omega) (5 * k + j) (by show 5 * k + j < 5 * S c; omega)).trans ((R.2.1 k hk).2 j hj)
  · exact b 105 (by omega) (by omega) i (by show i < 3 * S c; omega)
  · exact b 106 (by omega) (by omega) i (by show i < 3 * S c; omega)
  · exact b 98 (by omega) (by omega) i (by show i < 1 * S c; omega)
/-! what is needed, in the reference -/
def NDR (U : Nat → Nat → Int) (S : Nat → Nat) (x : Nat) (j : Int) (nd : Nat → Int) : Prop := (∀ i, i < 16 → 0 ≤ nd i ∧ nd i ≤ 1) ∧ nd x = 1 ∧ ∀ i : Nat, j < (i : Int) → i ≤ x → nd i = 1 → ∀ g, gvn (U i) (S i) g → nd g = 1
theorem NDR_0 {U : Nat → Nat → Int} {S : Nat → Nat} {x : Nat} {y : Int} {nd : Nat → Int} (hx : x < 16) (hy : y = (x : Int)) (h : ∀ j, j < 16 → nd j = if j = x then 1 else 0) : NDR U S x y nd := by
  refine ⟨fun i hi => ?_, ?_, fun i h1 h2 => by omega⟩
  · rw [h i hi]
    split <;> omega
  · rw [h x hx, if_pos rfl]
theorem NDR_s {U : Nat → Nat → Int} {S : Nat → Nat} {x : Nat} {j : Int} {k : Nat} {nd nd' : Nat → Int} (y : NDR U S x j nd) (hj : 0 ≤ j ∧ j ≤ (x : Int)) (hx : x < 16) (W : ∀ q, q < S j.toNat → U j.toNat (21 * q + 6) < j) (M : MGI (U j.toNat) nd k nd') (hk : k ≤ S j.toNat) (e : k = S j.toNat ∨ nd' j.toNat = 0) : NDR U S x (j - 1) nd' := by
  refine ⟨M.2, (M.1 x hx).mpr (Or.inl y.2.1), fun i h1 h2 h3 g hg => ?_⟩
  by_cases c : i = j.toNat
  · subst c
    rcases e with e | e
    · rw [← e] at hg
      exact (M.1 g (gvn_l hg)).mpr (Or.inr hg)
    · omega
  · refine (M.1 g (gvn_l hg)).mpr (Or.inl (y.2.2 i (by omega) h2 ?_ g hg))
    rcases (M.1 i (by omega)).mp h3 with z | ⟨q, q1, q2, q3⟩
    · exact z
    · have := W q (by omega)
      omega
/-- what is known to be sure, below j -/
def SRR (U : Nat → Nat → Int) (S : Nat → Nat) (ro nd : Nat → Int) (j : Nat) (sr : Nat → Int) : Prop := ∀ i, i < j → nd i = 1 → sr i = sre U S ro i - 1
section
variable {U : Nat → Nat → Int} {S : Nat → Nat} {ro nd sr : Nat → Int} {j : Nat} {v : Int}
theorem SRR_0 : SRR U S ro nd 0 sr := fun i hi => absurd hi (by omega)
theorem SRR_n (x : SRR U S ro nd j sr) (h : nd j = 0) : SRR U S ro nd (j + 1) sr := fun i h1 h3 => by
  by_cases c : i = j
  · rw [c, h] at h3; omega
  · exact x i (by omega) h3
theorem SRR_s (x : SRR U S ro nd j sr) (hv : v = sre U S ro j - 1) : SRR U S ro nd (j + 1) (av_u1 sr j v) := fun i h1 h3 => by
  by_cases c : i = j
  · rw [c, u1_eq]; exact hv
  · rw [u1_ne c]; exact x i (by omega) h3
/-- the reference bars what isn't sure -/
theorem bbr_b {A : Nat → Nat → Int} {c k x : Nat} (R : RCA A U S c) (hk : k < S c) (W : U c (21 * k + 6) < (c : Int)) (hc : c ≤ 16) (N : ∀ g, gvn (U c) (S c) g → nd g = 1) (X : SRR U S ro nd c (A 116)) : bbr A c k = brv (U c) (srt U S ro c) k := by
  unfold bbr brv
  rw [((R.2.1 k hk).1).2.2.2.2.2.2]
  by_cases p : 0 ≤ U c (21 * k + 6)
  · have l : (U c (21 * k + 6)).toNat < c := by omega
    have nn := N (U c (21 * k + 6)).toNat ⟨k, hk, by omega, by omega⟩
    have s1 := X _ l nn
    have s2 := sre_r (U := U) (S := S) (ro := ro) (j := (U c (21 * k + 6)).toNat)
    rw [srt_e l, s1]
    rcases s2 with e | e
    · rw [e, if_pos ⟨p, by decide⟩, if_pos ⟨p, by omega, by decide⟩]
    · rw [e, if_neg (fun z => absurd z.2 (by decide)), if_neg (fun z => z.2.2 rfl)]
  · rw [if_neg (fun z => p z.1), if_neg (fun z => p z.1)]
/-- all that is given has been told sure or not -/
theorem SRR_b {A : Nat → Nat → Int} {c k : Nat} (R : RCA A U S c) (hk : k < S c) (W : U c (21 * k + 6) < (c : Int)) (hc : c ≤ 16) (N : ∀ g, gvn (U c) (S c) g → nd g = 1) (X : SRR U S ro nd c (A 116)) : 0 ≤ A 88 (12 * c + k) → 0 ≤ A 116 (A 88 (12 * c + k)).toNat ∧ A 116 (A 88 (12 * c + k)).toNat ≤ 1 := fun p => by
  rw [((R.2.1 k hk).1).2.2.2.2.2.2] at p ⊢
  have s1 := X (U c (21 * k + 6)).toNat (by omega) (N _ ⟨k, hk, by omega, by omega⟩)
  have s2 := sre_r (U := U) (S := S) (ro := ro) (j := (U c (21 * k + 6)).toNat)
  omega
end
theorem elem_sub {L' : List Nat} {q : Nat} (e : L'.elem q = false) : ∀ L : List Nat, L.all (fun p => L'.elem p) = true → L.elem q = false := by
  intro L
  induction L with
  | nil => intro _; rfl
  | cons p L ih =>
    intro h
    rw [List.all_cons, Bool.and_eq_true] at h
    refine elc.mpr ⟨fun z => ?_, ih h.2⟩
    subst z
    rw [e] at h
    exact absurd h.1 (by decide)
theorem ZE_up {L K L' K' : List Nat} {g h : av_H} (Z : ZE L K g h) (h1 : L.all (fun p => L'.elem p) = true) (h2 : K.all (fun p => K'.elem p) = true) : ZE L' K' g h := ZE_mo Z (fun _ e => elem_sub e L h1) (fun _ e => elem_sub e K h2)
section
variable {sc : av_Sr} {cd : List (Nat × av_E)} {Q : Option av_V → av_H → Prop} {pc p' : Nat} {lv : av_L} {r' : List av_V} {g h : av_H} {n a m : Int}
theorem xm_zs {q l : Nat} {x v : Int} (hx : cd.lookup pc = some (av_q (.bastore))) (hp : pc + 1 = p') (I : IMF n a m h) (F : FM g h) (hk : hK h q = (22, l)) (ha : q = 95 ∨ (109 ≤ q ∧ q ≤ 121)) (hi : 0 ≤ x ∧ x < l ∧ (l : Int) < 2147483648) (hv : v = 0 ∨ v = 1) (hw : ∀ h', IMF n a m h' → FM g h' → h' = hwA h q x.toNat v → av_wp sc cd p' lv r' h' Q) : av_wp sc cd pc lv (.inl v :: .inl x :: .inr (.inr (.inl (some q))) :: r') h Q :=
  wq_zs hx hp hk hi hv (hw _ ⟨IM_wA I.1 ha, I.2⟩ (FM_wA F (mA_in (by omega) (by omega))) rfl)
end
theorem BRR_no {t : T3} {h : av_H} {v : Int} (x : BRR t h) (e : hF h 77 50 = v) (z : v = 0) : t.2.2 = 9999 := by
  rcases x with y | y
  · exact y.1
  · have := y.2.1
    omega
theorem BRR_ye {t : T3} {h : av_H} {v : Int} (x : BRR t h) (e : hF h 77 50 = v) (z : v ≠ 0) : t.2.2 ≠ 9999 ∧ hF h 77 51 = t.1 ∧ hF h 77 52 = t.2.1 ∧ hF h 77 53 = t.2.2 := by
  rcases x with y | y
  · have := y.2
    omega
  · exact ⟨y.1, y.2.2.1, y.2.2.2.1, y.2.2.2.2⟩
theorem RCA_f {U : Nat → Nat → Int} {S : Nat → Nat} {c : Nat} {g h : av_H} (R : RCA (hA g) U S c) (F : FM g h) : RCA (hA h) U S c := by
  unfold RCA
  rw [F.2.2.2.2.2.2 81 rfl, F.2.2.2.2.2.2 82 rfl, F.2.2.2.2.2.2 83 rfl, F.2.2.2.2.2.2 84 rfl, F.2.2.2.2.2.2 85 rfl, F.2.2.2.2.2.2 86 rfl, F.2.2.2.2.2.2 87 rfl, F.2.2.2.2.2.2 88 rfl, F.2.2.2.2.2.2 89 rfl, F.2.2.2.2.2.2 90 rfl, F.2.2.2.2.2.2 91 rfl, F.2.2.2.2.2.2 92 rfl]
  exact R
theorem sre_v {U : Nat → Nat → Int} {S : Nat → Nat} {ro : Nat → Int} {j : Nat} {v : Int} (p : (v = 1 ∧ SRE (U j) ro (brv (U j) (srt U S ro j)) (S j)) ∨ (v = 0 ∧ ¬ SRE (U j) ro (brv (U j) (srt U S ro j)) (S j))) : v = sre U S ro j - 1 := by
  rcases p with p | p
  · rw [p.1, sre_y p.2]; rfl
  · rw [p.1, sre_n p.2]; rfl
