/-! BENCHES, exactly: cells u, rules ro, the bench's arrays a, its bargain x y z -/
def EB (b t c s r : Nat) (cb : Int) (u ro : Nat → Int) (a : Nat → Nat → Int) (x y z : Int) (h : av_H) : Prop := IB b t c s r cb h ∧ hA h c = u ∧ hA h r = ro ∧ (∀ j, j < 11 → hA h (b + 1 + j) = a j) ∧ hF h b 13 = x ∧ hF h b 14 = y ∧ hF h b 15 = z
/-- but for the bench's own rows and its bargain nothing changed -/
def FN (b : Nat) (g h : av_H) : Prop := Fr1 g h ∧ (∀ q, (∀ j, j < 11 → q ≠ b + 1 + j) → hA h q = hA g q) ∧ ∀ o f, o ≠ b → hF h o f = hF g o f
theorem FN_rf (b : Nat) (h : av_H) : FN b h h := ⟨Fr1_rf h, fun _ _ => rfl, fun _ _ _ => rfl⟩
theorem Fr1_tr2 {g h k : av_H} (a : Fr1 g h) (c : Fr1 h k) : Fr1 g k := ⟨Fr_tr a.1 c.1, c.2.trans a.2⟩
theorem FN_tr {b : Nat} {g h k : av_H} (a : FN b g h) (c : FN b h k) : FN b g k := ⟨Fr1_tr2 a.1 c.1, fun q e => (c.2.1 q e).trans (a.2.1 q e), fun o f e => (c.2.2 o f e).trans (a.2.2 o f e)⟩
section
variable {b t c s r : Nat} {cb : Int} {u ro : Nat → Int} {a : Nat → Nat → Int} {x y z : Int} {g h : av_H}
theorem eb_u (e : EB b t c s r cb u ro a x y z h) : hA h c = u := e.2.1
theorem eb_ro (e : EB b t c s r cb u ro a x y z h) : hA h r = ro := e.2.2.1
theorem eb_a (e : EB b t c s r cb u ro a x y z h) (j : Nat) (hj : Nat.blt j 11 = true) : hA h (b + 1 + j) = a j := e.2.2.2.1 j (Nat.le_of_ble_eq_true hj)
theorem eb_x (e : EB b t c s r cb u ro a x y z h) : hF h b 13 = x := e.2.2.2.2.1
theorem eb_y (e : EB b t c s r cb u ro a x y z h) : hF h b 14 = y := e.2.2.2.2.2.1
theorem eb_z (e : EB b t c s r cb u ro a x y z h) : hF h b 15 = z := e.2.2.2.2.2.2
theorem eb_uv (e : EB b t c s r cb u ro a x y z h) (j : Nat) : -1 ≤ u j ∧ u j ≤ 100000 := by
  have := co_v (ib_co e.1) j
  rw [eb_u e] at this
  exact this
theorem eb_um (e : EB b t c s r cb u ro a x y z h) (k j : Nat) (hj : j < 4) : u (21 * k + 15 + j) ≤ 16 := by
  have := (ib_co e.1).2.2.2.2.2.2.2.2.2 k j hj
  rw [eb_u e] at this
  exact this
theorem eb_rv (e : EB b t c s r cb u ro a x y z h) (j : Nat) : -2 ≤ ro j ∧ ro j ≤ 999 := by
  have := ib_rv e.1 j
  rw [eb_ro e] at this
  exact this
theorem eb_xr (e : EB b t c s r cb u ro a x y z h) : -1 ≤ x ∧ x ≤ 11 := by
  have := ib_mb e.1
  rw [eb_x e] at this
  exact this
theorem eb_yr (e : EB b t c s r cb u ro a x y z h) : -1 ≤ y ∧ y ≤ 11 := by
  have := ib_mo e.1
  rw [eb_y e] at this
  exact this
theorem EB_wA {j i : Nat} {v : Int} (e : EB b t c s r cb u ro a x y z h) (hj : Nat.blt j 11 = true) : EB b t c s r cb u ro (av_u2 a j i v) x y z (hwA h (b + 1 + j) i v) := by
  have sa := sA_bn e.1.2.1 j hj
  have ra := rwc_bn e.1.2.1 j hj
  refine ⟨IB_wA e.1 _ sa ra _ _, ?_, ?_, fun k hk => ?_, e.2.2.2.2⟩
  · rw [hA_ne (fun q => by rw [← q, sA_cells (ib_co e.1).2.2.2.2.2.2.2.1] at sa; cases sa)]
    exact e.2.1
  · rw [hA_ne (fun q => by rw [← q, e.1.2.2.2.2.2.2] at ra; cases ra)]
    exact e.2.2.1
  · by_cases q : k = j
    · subst q
      rw [hA_wu, e.2.2.2.1 k hk]
      funext p
      unfold av_u1 av_u2
      by_cases w : p = i
      · rw [if_pos w, if_pos ⟨rfl, w⟩]
      · rw [if_neg w, if_neg (fun z => w z.2)]
    · rw [hA_ne (by omega), e.2.2.2.1 k hk, av_u2_ne q]
theorem FN_wA {j i : Nat} {v : Int} (F : FN b g h) (hb : bn b) (hj : Nat.blt j 11 = true) : FN b g (hwA h (b + 1 + j) i v) := by
  refine ⟨Fr1_wA F.1 (sA_bn hb j hj), fun q e => ?_, F.2.2⟩
  rw [hA_ne (e j (Nat.le_of_ble_eq_true hj))]
  exact F.2.1 q e
theorem bn_sF {f : Nat} (hb : bn b) (hf : f = 13 ∨ f = 14 ∨ f = 15) : sF b f = true := by
  have := sB_bn hb
  rcases hf with e | e | e <;> subst e <;> simp [sF, this]
theorem FN_wF {f : Nat} {v : Int} (F : FN b g h) (hb : bn b) (hf : f = 13 ∨ f = 14 ∨ f = 15) : FN b g (hwF h b f v) := by
  refine ⟨Fr1_wF F.1 (bn_sF hb hf), F.2.1, fun o k e => ?_⟩
  rw [show hF (hwF h b f v) o = hF h o from av_u2_ne e]
  exact F.2.2 o k e
theorem EB_w13 {v : Int} (e : EB b t c s r cb u ro a x y z h) (hv : -1 ≤ v ∧ v ≤ 11) : EB b t c s r cb u ro a v y z (hwF h b 13 v) := ⟨IB_wF e.1 13 (Or.inl rfl) v (Or.inr hv), e.2.1, e.2.2.1, e.2.2.2.1, hF_self, (hF_oth (by decide)).trans (eb_y e), (hF_oth (by decide)).trans (eb_z e)⟩
theorem EB_w14 {v : Int} (e : EB b t c s r cb u ro a x y z h) (hv : -1 ≤ v ∧ v ≤ 11) : EB b t c s r cb u ro a x v z (hwF h b 14 v) := ⟨IB_wF e.1 14 (Or.inr (Or.inl rfl)) v (Or.inr hv), e.2.1, e.2.2.1, e.2.2.2.1, (hF_oth (by decide)).trans (eb_x e), hF_self, (hF_oth (by decide)).trans (eb_z e)⟩
theorem EB_w15 {v : Int} (e : EB b t c s r cb u ro a x y z h) : EB b t c s r cb u ro a x y v (hwF h b 15 v) := ⟨IB_wF e.1 15 (Or.inr (Or.inr rfl)) v (Or.inl rfl), e.2.1, e.2.2.1, e.2.2.2.1, (hF_oth (by decide)).trans (eb_x e), (hF_oth (by decide)).trans (eb_y e), hF_self⟩
end
section
variable {sc : av_Sr} {cd : List (Nat × av_E)} {Q : Option av_V → av_H → Prop} {pc p' : Nat} {lv : av_L} {r' : List av_V} {g h : av_H} {b t c s r : Nat} {cb : Int} {u ro : Nat → Int} {a : Nat → Nat → Int} {x y z : Int}
theorem xb_as {n : Nat} {i v : Int} (hx : cd.lookup pc = some (av_q (.iastore))) (hp : pc + 1 = p') (e : EB b t c s r cb u ro a x y z h) (F : FN b g h) (j : Nat) (hj : Nat.blt j 11 = true) (hn : c_K (36 + j) = (20, n)) (hi : 0 ≤ i ∧ i < n ∧ (n : Int) < 2147483648) (hw : ∀ h', EB b t c s r cb u ro (av_u2 a j i.toNat v) x y z h' → FN b g h' → av_wp sc cd p' lv r' h' Q) : av_wp sc cd pc lv (.inl v :: .inl i :: .inr (.inr (.inl (some (b + 1 + j)))) :: r') h Q :=
  wq_as hx hp ((ib_k e.1 j (Nat.ble_eq_true_of_le (Nat.le_succ_of_le (Nat.le_of_ble_eq_true hj)))).trans hn) hi (hw _ (EB_wA e hj) (FN_wA F e.1.2.1 hj))
theorem xb_zs {n : Nat} {i v : Int} (hx : cd.lookup pc = some (av_q (.bastore))) (hp : pc + 1 = p') (e : EB b t c s r cb u ro a x y z h) (F : FN b g h) (j : Nat) (hj : Nat.blt j 11 = true) (hn : c_K (36 + j) = (22, n)) (hi : 0 ≤ i ∧ i < n ∧ (n : Int) < 2147483648) (hv : v = 0 ∨ v = 1) (hw : ∀ h', EB b t c s r cb u ro (av_u2 a j i.toNat v) x y z h' → FN b g h' → av_wp sc cd p' lv r' h' Q) : av_wp sc cd pc lv (.inl v :: .inl i :: .inr (.inr (.inl (some (b + 1 + j)))) :: r') h Q :=
  wq_zs hx hp ((ib_k e.1 j (Nat.ble_eq_true_of_le (Nat.le_succ_of_le (Nat.le_of_ble_eq_true hj)))).trans hn) hi hv (hw _ (EB_wA e hj) (FN_wA F e.1.2.1 hj))
theorem xb_p13 {idx : Nat} {v : Int} (hx : cd.lookup pc = some (av_qf (.putfield idx) 0 13 0)) (hp : pc + 3 = p') (e : EB b t c s r cb u ro a x y z h) (F : FN b g h) (hv : -1 ≤ v ∧ v ≤ 11) (hw : ∀ h', EB b t c s r cb u ro a v y z h' → FN b g h' → av_wp sc cd p' lv r' h' Q) : av_wp sc cd pc lv (.inl v :: .inr (.inr (.inl (some b))) :: r') h Q :=
  wq_pi hx hp (congrArg Prod.fst (ib_k0 e.1)) rfl (hw _ (EB_w13 e hv) (FN_wF F e.1.2.1 (Or.inl rfl)))
theorem xb_p14 {idx : Nat} {v : Int} (hx : cd.lookup pc = some (av_qf (.putfield idx) 0 14 0)) (hp : pc + 3 = p') (e : EB b t c s r cb u ro a x y z h) (F : FN b g h) (hv : -1 ≤ v ∧ v ≤ 11) (hw : ∀ h', EB b t c s r cb u ro a x v z h' → FN b g h' → av_wp sc cd p' lv r' h' Q) : av_wp sc cd pc lv (.inl v :: .inr (.inr (.inl (some b))) :: r') h Q :=
  wq_pi hx hp (congrArg Prod.fst (ib_k0 e.1)) rfl (hw _ (EB_w14 e hv) (FN_wF F e.1.2.1 (Or.inr (Or.inl rfl))))
theorem xb_p15 {idx : Nat} {v : Int} (hx : cd.lookup pc = some (av_qf (.putfield idx) 0 15 0)) (hp : pc + 3 = p') (e : EB b t c s r cb u ro a x y z h) (F : FN b g h) (hw : ∀ h', EB b t c s r cb u ro a x y v h' → FN b g h' → av_wp sc cd p' lv r' h' Q) : av_wp sc cd pc lv (.inl v :: .inr (.inr (.inl (some b))) :: r') h Q :=
  wq_pi hx hp (congrArg Prod.fst (ib_k0 e.1)) rfl (hw _ (EB_w15 e) (FN_wF F e.1.2.1 (Or.inr (Or.inr rfl))))
end
/-! a saying's hours are set -/
def SHf (k : Nat) (a a' : Nat → Nat → Int) : Prop := (∀ q, (∀ i, i < 3 → q ≠ 12 * i + k) → a' 0 q = a 0 q) ∧ ∀ j, j ≠ 0 → a' j = a j
def SHc (u : Nat → Int) (k : Nat) (y : Int) (a a' : Nat → Nat → Int) : Prop := (∀ i, i < 3 → a' 0 (12 * i + k) = chv u k y i) ∧ SHf k a a'
def cdg (u : Nat → Int) (k : Nat) (y : Int) : Nat → Int := fun j => rst (mvu u k) y j % mvu u k j
def SHi (u : Nat → Int) (k : Nat) (y : Int) (a : Nat → Nat → Int) (i : Nat) (a' : Nat → Nat → Int) : Prop := (∀ q, q < i → a' 0 (12 * q + k) = hsm u (cdg u k y) k (q + 1)) ∧ SHf k a a'
section
variable {u : Nat → Int} {k : Nat} {y v : Int} {a a' : Nat → Nat → Int} {i : Nat}
theorem SHf_w {n : Nat} (x : SHf k a a') (hn : ∃ i, i < 3 ∧ n = 12 * i + k) : SHf k a (av_u2 a' 0 n v) := by
  obtain ⟨i, hi, e⟩ := hn
  refine ⟨fun q hq => ?_, fun j hj => ?_⟩
  · rw [av_u2_oth (fun z => hq i hi (by omega))]
    exact x.1 q hq
  · rw [av_u2_ne hj]
    exact x.2 j hj
theorem SHi_0 : SHi u k y a 0 a := ⟨fun q hq => absurd hq (by omega), fun _ _ => rfl, fun _ _ => rfl⟩
theorem SHi_s (x : SHi u k y a i a') (hi : i < 3) (hk : k < 12) (hv : v = hsm u (cdg u k y) k (i + 1)) {n : Nat} (hn : n = 12 * i + k) : SHi u k y a (i + 1) (av_u2 a' 0 n v) := by
  subst hn
  refine ⟨fun q hq => ?_, SHf_w x.2 ⟨i, hi, rfl⟩⟩
  by_cases e : q = i
  · rw [e, av_u2_self, hv]
  · rw [av_u2_oth (by omega)]
    exact x.1 q (by omega)
theorem SH_no (x : SHi u k y a 3 a') (h1 : u (21 * k + 19) ≠ 1) (h2 : rst (mvu u k) y 3 ≠ 1) : SHc u k y a a' := by
  refine ⟨fun i hi => ?_, x.2⟩
  rw [x.1 i hi]
  unfold chv
  rw [if_neg (fun z => z.1.elim h1 h2)]
  rfl
theorem SH_lo (x : SHi u k y a 3 a') (hk : k < 12) (h : u (21 * k + 19) = 1 ∨ rst (mvu u k) y 3 = 1) {n m : Nat} (hn : n = 12 + k) (hm : m = 24 + k) : SHc u k y a (av_u2 (av_u2 a' 0 n (-1)) 0 m (-1)) := by
  subst hn
  subst hm
  refine ⟨fun i hi => ?_, SHf_w (SHf_w x.2 ⟨1, by omega, by omega⟩) ⟨2, by omega, by omega⟩⟩
  unfold chv
  rcases (show i = 0 ∨ i = 1 ∨ i = 2 by omega) with e | e | e <;> subst e
  · rw [av_u2_oth (by omega), av_u2_oth (by omega), x.1 0 (by omega), if_neg (fun z => by omega)]
    rfl
  · rw [if_pos ⟨h, by omega⟩, av_u2_oth (by omega), show 12 * 1 + k = 12 + k by omega, av_u2_self]
  · rw [if_pos ⟨h, by omega⟩, show 12 * 2 + k = 24 + k by omega, av_u2_self]
end
/-! all sayings hear their hours -/
def HO (u : Nat → Int) (q : Nat) (a : Nat → Nat → Int) : Prop := (0 ≤ a 1 q ∧ a 1 q ≤ 65536) ∧ ∀ i, i < 3 → a 0 (12 * i + q) = chv u q (a 1 q) i
def HZ (u : Nat → Int) (a : Nat → Nat → Int) : Prop := ∀ q, q < 12 → a 1 q = -1 ∨ HO u q a
def HK (u : Nat → Int) (x : Int) (a : Nat → Nat → Int) (k : Nat) (a' : Nat → Nat → Int) : Prop := (∀ q, q < k → a' 1 q = own u x q ∧ HO u q a') ∧ HZ u a' ∧ ∀ j, 2 ≤ j → a' j = a j
section
variable {u : Nat → Int} {x : Int} {a a' a'' : Nat → Nat → Int} {k : Nat}
theorem HK_0 (z : HZ u a) : HK u x a 0 a := ⟨fun q hq => absurd hq (by omega), z, fun _ _ => rfl⟩
theorem HK_same (z : HK u x a k a') (hk : k < 12) (e : a' 1 k = own u x k) (p : 0 ≤ own u x k) : HK u x a (k + 1) a' := by
  refine ⟨fun q hq => ?_, z.2⟩
  by_cases c : q = k
  · subst c
    refine ⟨e, ?_⟩
    rcases z.2.1 q hk with w | w
    · omega
    · exact w
  · exact z.1 q (by omega)
theorem HK_set (z : HK u x a k a') (hk : k < 12) (p : 0 ≤ own u x k ∧ own u x k ≤ 65536) {n : Nat} (hn : n = k) {w : Int} (hw : w = own u x k) (S : SHc u k w (av_u2 a' 1 n w) a'') : HK u x a (k + 1) a'' := by
  subst hn
  subst hw
  have e1 : ∀ q, a'' 1 q = if q = n then own u x n else a' 1 q := fun q => by
    rw [S.2.2 1 (by omega)]
    by_cases c : q = n
    · rw [if_pos c, c, av_u2_self]
    · rw [if_neg c, av_u2_oth c]
  have e0 : ∀ q, q < 12 → q ≠ n → ∀ i, i < 3 → a'' 0 (12 * i + q) = a' 0 (12 * i + q) := fun q hq hn i hi => by
    rw [S.2.1 (12 * i + q) (fun j hj => by omega), av_u2_ne (by omega)]
  have hn2 : HO u n a'' := ⟨by rw [e1, if_pos rfl]; exact p, fun i hi => by rw [e1, if_pos rfl]; exact S.1 i hi⟩
  have ho : ∀ q, q < 12 → q ≠ n → HO u q a' → HO u q a'' := fun q hq hne H => ⟨by rw [e1, if_neg hne]; exact H.1, fun i hi => by rw [e1, if_neg hne, e0 q hq hne i hi]; exact H.2 i hi⟩
  refine ⟨fun q hq => ?_, fun q hq => ?_, fun j hj => ?_⟩
  · by_cases c : q = n
    · rw [c, e1, if_pos rfl]
      exact ⟨rfl, hn2⟩
    · rw [e1, if_neg c]
      exact ⟨(z.1 q (by omega)).1, ho q (by omega) c (z.1 q (by omega)).2⟩
  · by_cases c : q = n
    · rw [c]; exact Or.inr hn2
    · rcases z.2.1 q hq with w | w
      · exact Or.inl (by rw [e1, if_neg c]; exact w)
      · exact Or.inr (ho q hq c w)
  · rw [S.2.2 j (by omega), av_u2_ne (by omega)]
    exact z.2.2 j hj
/-- the hours of combo x -/
def HX (u : Nat → Int) (s : Nat) (x : Int) (a : Nat → Nat → Int) : Prop := ∀ q, q < s → ∀ i, i < 3 → a 0 (12 * i + q) = hrv u x q i
theorem HK_e {s : Nat} (z : HK u x a s a') (hx : 0 ≤ x) : HX u s x a' := fun q hq i hi => by
  have w := z.1 q hq
  rw [w.2.2 i hi, w.1]
  exact own_hv hx q i hi
end
def hof (a : Nat → Nat → Int) (k w : Int) : Int := if (0 ≤ k ∧ k < 12) ∧ 0 ≤ w ∧ w ≤ 2 then a 0 (w * 12 + k).toNat else -1
theorem HZ_r {u : Nat → Int} {a : Nat → Nat → Int} (z : HZ u a) {q : Nat} (hq : q < 12) : -1 ≤ a 1 q ∧ a 1 q ≤ 65536 := by
  rcases z q hq with e | e
  · omega
  · have := e.1
    omega
section
variable {u : Nat → Int} {k i y w w7 v rest now : Int}
theorem mvu_x (hk : 0 ≤ k) (hi : 0 ≤ i) (e : u (Int.toNat (k * 21 + 15 + i)) = w) : mvu u k.toNat i.toNat = mx1 w := by
  unfold mvu
  rw [← e]
  congr 2
  omega
theorem SH_a (hk : 0 ≤ k) (hi : 0 ≤ i) (e : u (Int.toNat (k * 21 + 15 + i)) = w) (h : w ≤ 0) (e1 : rest = rst (mvu u k.toNat) y i.toNat) : rest = rst (mvu u k.toNat) y (i.toNat + 1) := by
  show rest = rst (mvu u k.toNat) y i.toNat / mvu u k.toNat i.toNat
  rw [mvu_x hk hi e, ← e1, show mx1 w = 1 from if_pos (by omega), i_d1]
theorem SH_b (hk : 0 ≤ k) (hi : 0 ≤ i) (e : u (Int.toNat (k * 21 + 15 + i)) = w) (h : 0 < w) (e1 : rest = rst (mvu u k.toNat) y i.toNat) (ev : v = rest / w) : v = rst (mvu u k.toNat) y (i.toNat + 1) := by
  show v = rst (mvu u k.toNat) y i.toNat / mvu u k.toNat i.toNat
  rw [mvu_x hk hi e, ← e1, show mx1 w = w from if_neg (by omega), ev]
theorem SH_c (hk : 0 ≤ k) (hi : 0 ≤ i) (e : u (Int.toNat (k * 21 + 15 + i)) = w) (h : w ≤ 0) (e2 : now = hsm u (cdg u k.toNat y) k.toNat i.toNat) (e7 : u (Int.toNat (k * 21 + 7 + i)) = w7) : now + w7 = hsm u (cdg u k.toNat y) k.toNat (i.toNat + 1) := by
  show now + w7 = hsm u (cdg u k.toNat y) k.toNat i.toNat + u (21 * k.toNat + 7 + i.toNat) + rst (mvu u k.toNat) y i.toNat % mvu u k.toNat i.toNat
  rw [mvu_x hk hi e, ← e2, show mx1 w = 1 from if_pos (by omega), i_m1, ← e7, show (k * 21 + 7 + i).toNat = 21 * k.toNat + 7 + i.toNat by omega]
  omega
theorem SH_d (hk : 0 ≤ k) (hi : 0 ≤ i) (e : u (Int.toNat (k * 21 + 15 + i)) = w) (h : 0 < w) (e1 : rest = rst (mvu u k.toNat) y i.toNat) (e2 : now = hsm u (cdg u k.toNat y) k.toNat i.toNat) (e7 : u (Int.toNat (k * 21 + 7 + i)) = w7) (ev : v = rest % w) : now + w7 + v = hsm u (cdg u k.toNat y) k.toNat (i.toNat + 1) := by
  show now + w7 + v = hsm u (cdg u k.toNat y) k.toNat i.toNat + u (21 * k.toNat + 7 + i.toNat) + rst (mvu u k.toNat) y i.toNat % mvu u k.toNat i.toNat
  rw [mvu_x hk hi e, ← e2, ← e1, show mx1 w = w from if_neg (by omega), ev, ← e7, show (k * 21 + 7 + i).toNat = 21 * k.toNat + 7 + i.toNat by omega]
end
