/-! A BENCH TAKES A CASE -/
theorem cel_i2 {u : Nat → Int} {s : Nat} {k w : Int} (h : (0 ≤ k ∧ k < (s : Int)) ∧ 0 ≤ w ∧ w < 21) : cel u s k w = u (21 * k.toNat + w.toNat) := by
  unfold cel
  rw [if_pos h]
  congr 1
  omega
theorem xc_29 {h : av_H} {t c s : Nat} {cb : Int} (o : CO h t c s cb) (k : Int) (qk : 0 ≤ k ∧ k < (s : Int)) (w : Nat) (hw : w < 21) {wi v : Int} (ew : wi = (w : Int)) (e : hA h c (21 * Int.toNat k + w) = v) {Q : Option av_V → av_H → Prop} (hq : Q (some (.inl v)) h) : av_wp none cd_29 0 [some (.inr (.inr (.inl (some (t))))), some (.inl k), some (.inl wi)] [] h Q := by
  subst ew
  subst e
  have s12 := co_s12 o
  refine cx_29 o k (by omega) _ (by omega) ?_
  rw [cel_i2 ⟨qk, by omega⟩, show Int.toNat (w : Int) = w by omega]
  exact hq
def smv (u ro : Nat → Int) (k : Nat) : Int := if u (21 * k + 0) = 3 ∧ ro 9 = 1 ∧ u (21 * k + 10) = -1 ∧ u (21 * k + 11) = -1 ∧ u (21 * k + 12) = -1 then 1 else 0
def ofv (u ro : Nat → Int) (k : Nat) : Int := if u (21 * k + 0) = 0 ∨ (u (21 * k + 0) = 3 ∧ smv u ro k = 0) then 1 else 0
def ysv (u ro : Nat → Int) (k : Nat) : Int := if u (21 * k + 0) = 2 ∨ smv u ro k = 1 ∨ (u (21 * k + 0) = 6 ∧ ro 11 = 1) then 1 else 0
def ivv (u sr : Nat → Int) (y : Int) (k : Nat) : Int := if 0 ≤ u (21 * k + 6) ∧ u (21 * k + 6) < 16 ∧ av_w (sr (Int.toNat (y + u (21 * k + 6)))) ≠ 2 then 1 else 0
theorem smv_b (u ro : Nat → Int) (k : Nat) : 0 ≤ smv u ro k ∧ smv u ro k ≤ 1 := by
  unfold smv
  split <;> omega
def TKI (u ro sr : Nat → Int) (y : Int) (k : Nat) (a : Nat → Nat → Int) : Prop := (∀ q, q < 12 → a 1 q = -1) ∧ ∀ q, q < k → a 2 q = ofv u ro q ∧ a 3 q = ysv u ro q ∧ a 4 q = ivv u sr y q
theorem TKI_0 {u ro sr : Nat → Int} {y : Int} {a : Nat → Nat → Int} (h : ∀ q, q < 12 → a 1 q = -1) : TKI u ro sr y 0 a := ⟨h, fun q hq => absurd hq (by omega)⟩
theorem TKI_s {u ro sr : Nat → Int} {y : Int} {a : Nat → Nat → Int} {k i1 i2 i3 : Nat} {v1 v2 v3 : Int} (x : TKI u ro sr y k a) (h1 : i1 = k) (h2 : i2 = k) (h3 : i3 = k) (w1 : v1 = ofv u ro k) (w2 : v2 = ysv u ro k) (w3 : v3 = ivv u sr y k) : TKI u ro sr y (k + 1) (av_u2 (av_u2 (av_u2 a 2 i1 v1) 3 i2 v2) 4 i3 v3) := by
  subst h1
  subst h2
  subst h3
  refine ⟨fun q hq => ?_, fun q hq => ?_⟩
  · rw [av_u2_ne (by decide), av_u2_ne (by decide), av_u2_ne (by decide)]
    exact x.1 q hq
  · by_cases c : q = i3
    · subst c
      refine ⟨?_, ?_, ?_⟩
      · rw [av_u2_ne (by decide), av_u2_ne (by decide), av_u2_self, w1]
      · rw [av_u2_ne (by decide), av_u2_self, w2]
      · rw [av_u2_self, w3]
    · have y1 := x.2 q (by omega)
      refine ⟨?_, ?_, ?_⟩
      · rw [av_u2_ne (by decide), av_u2_ne (by decide), av_u2_oth c]; exact y1.1
      · rw [av_u2_ne (by decide), av_u2_oth c, av_u2_ne (by decide)]; exact y1.2.1
      · rw [av_u2_oth c, av_u2_ne (by decide), av_u2_ne (by decide)]; exact y1.2.2
/-- what else may change when a bench takes a case -/
def FY (b : Nat) (g h : av_H) : Prop := FX b g h ∧ (∀ q, (∀ j, j < 11 → q ≠ b + 1 + j) → hA h q = hA g q) ∧ ∀ o f, o ≠ b → hF h o f = hF g o f
theorem FY_n {b : Nat} {g h k : av_H} (a : FY b g h) (c : FN b h k) : FY b g k := ⟨FX_1 a.1 c.1, fun q e => (c.2.1 q e).trans (a.2.1 q e), fun o f e => (c.2.2 o f e).trans (a.2.2 o f e)⟩
theorem hfil_ne {h : av_H} {a lo hi q : Nat} {v : Int} (e : q ≠ a) : hA (hfil h a lo hi v) q = hA h q := by
  funext j
  exact if_neg (fun z => e z.1)
theorem hfil_in {h : av_H} {a hi j : Nat} {v : Int} (e : j < hi) : hA (hfil h a 0 hi v) a j = v := if_pos ⟨rfl, Nat.zero_le _, e⟩
theorem IB_set {h : av_H} {b t c s r : Nat} {cb : Int} (I : IC h) (hb : bn b) (co : CO h t c s cb) (kr : hK h r = (20, 14)) (k2 : rwc r = true) : IB b t c s r cb (hwG (hwG h b 12 (some t)) b 11 (some r)) ∧ FX b h (hwG (hwG h b 12 (some t)) b 11 (some r)) := by
  have I1 := IC_wT I hb co
  have F1 : Fr h (hwG h b 12 (some t)) := Fr_wG (Fr_rf h) (by simp [sG, sB_bn hb])
  have I2 := IC_wU (r := r) I1 hb kr k2
  have F2 : Fr (hwG h b 12 (some t)) (hwG (hwG h b 12 (some t)) b 11 (some r)) := Fr_wG (Fr_rf _) (by simp [sG, sB_bn hb])
  refine ⟨⟨I2, hb, CO_fr I1.1 (CO_fr I.1 co F1) F2, ?_, av_u2_self, kr, k2⟩, Fr_tr F1 F2, fun o f e _ => ?_⟩
  · show av_u2 (av_u2 h.2.2.2.2.2.1 b 12 (some t)) b 11 (some r) b 12 = _
    rw [av_u2_oth (by decide), av_u2_self]
  · show av_u2 (av_u2 h.2.2.2.2.2.1 b 12 (some t)) b 11 (some r) o f = _
    rw [av_u2_ne e, av_u2_ne e]
/-- the bench as it is when its case is set and its turns are none -/
theorem EB_take {h h2 : av_H} {b t c s r : Nat} {cb : Int} (i2 : IB b t c s r cb h2) (X2 : FX b h h2) (eA : hA h2 = hA h) (eF : hF h2 = hF h) : ∃ a, EB b t c s r cb (hA h c) (hA h r) a (hF h b 13) (hF h b 14) (hF h b 15) (hfil h2 (b + 1 + 1) 0 12 (-1)) ∧ FY b h (hfil h2 (b + 1 + 1) 0 12 (-1)) ∧ ∀ q, q < 12 → a 1 q = -1 := by
  have sa := sA_bn i2.2.1 1 rfl
  have ra := rwc_bn i2.2.1 1 rfl
  obtain ⟨I4, F4⟩ := IC_fil (a := b + 1 + 1) (lo := 0) (hi := 12) (v := (-1)) i2.1 sa (fun z => by rw [ra] at z; cases z) (by omega)
  refine ⟨fun j => hA (hfil h2 (b + 1 + 1) 0 12 (-1)) (b + 1 + j), ⟨ib_f1 i2 I4 F4, ?_, ?_, fun j _ => rfl, ?_, ?_, ?_⟩, ⟨FX_1 X2 F4, fun q e => ?_, fun o f _ => ?_⟩, fun q hq => hfil_in hq⟩
  · rw [← eA]
    exact hfil_ne (fun q => by rw [← q, sA_cells (ib_co i2).2.2.2.2.2.2.2.1] at sa; cases sa)
  · rw [← eA]
    exact hfil_ne (fun q => by rw [← q, i2.2.2.2.2.2.2] at ra; cases ra)
  · rw [← eF]; rfl
  · rw [← eF]; rfl
  · rw [← eF]; rfl
  · rw [← eA]
    exact hfil_ne (e 1 (by omega))
  · rw [← eF]; rfl
theorem bn_27 {b : Nat} (hb : bn b) (j : Nat) (hj : j < 11) : (27 : Nat) ≠ b + 1 + j := by
  rcases hb with e | e | e <;> omega
