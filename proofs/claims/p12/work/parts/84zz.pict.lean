/-! THE BOOK WITH THE CLASS'S OWN: pictures for the looks of both -/
def BX (h : av_H) : Prop := BK h ∧ CLS h
def OPX (cm : List (Nat × av_E)) (lm : av_L) (h : av_H) (P : Int → Int → Prop) (v : Option av_V) (h1 : av_H) : Prop := ∃ x : Int, v = some (.inl x) ∧ hK h1 77 = (8, 0) ∧ av_wp none cm 0 lm [] h1 (fun w h2 => ∃ y : Int, w = some (.inl y) ∧ P x y ∧ BX h2 ∧ RM h h2)
theorem OPX_of {cc cm : List (Nat × av_E)} {lc lm : av_L} {h : av_H} {P : Int → Int → Prop} (a : av_wp none cc 0 lc [] h (OPr cm lm h P)) (b : av_wp none cc 0 lc [] h (fun _ h1 => av_wp none cm 0 lm [] h1 (fun _ h2 => CLS h2))) : av_wp none cc 0 lc [] h (OPX cm lm h P) :=
  av_wp_mono (av_wp_and a b) (fun v h1 z => by
    obtain ⟨⟨x, e, k, W⟩, W2⟩ := z
    refine ⟨x, e, k, av_wp_mono (av_wp_and W W2) (fun w h2 z => ?_)⟩
    obtain ⟨⟨y, e2, p, b, r⟩, c⟩ := z
    exact ⟨y, e2, p, ⟨b, c⟩, r⟩)
theorem CF0_Fr {g h : av_H} (G : av_Gd g) (L : LY g) (F : Fr g h) : CF0 g h := by
  have nF : ∀ {q j : Nat}, q ≠ 26 → q ≠ 35 → q ≠ 48 → q ≠ 61 → q ≠ 77 → ¬ lkF q j := fun h1 h2 h3 h4 h5 z => by
    rcases z with z | z
    · have := sF_lt z; omega
    · have := mF_lt z; omega
  refine CF0_fq G L lk_low (FQ_Fr F) ⟨nF (by decide) (by decide) (by decide) (by decide) (by decide), nF (by decide) (by decide) (by decide) (by decide) (by decide), nF (by decide) (by decide) (by decide) (by decide) (by decide), nF (by decide) (by decide) (by decide) (by decide) (by decide)⟩ ⟨fun z => z, fun z => z⟩ (fun q h1 h2 z => ?_)
  rcases z with z | z
  · have hh : ∀ q, q < 21 → 6 ≤ q → sA q = false := by decide
    rw [hh q h2 h1] at z
    cases z
  · have := mA_lt z
    omega
section
variable {h : av_H} {U : Nat → Nat → Int} {S : Nat → Nat}
theorem CSP_of (I : IC h) (x : PIC U S h) : CSP U S (hF h 3 3) h := ⟨rfl, ic_cc I, fun i hi => by
  have n16 := ic_cc I
  obtain ⟨t, c, f, y1, y2, y3⟩ := x i (by omega) hi
  refine ⟨t, c, y1.1, ?_, ?_⟩
  · have e : cbv (U i) (S i) = cbv f (S i) := by
      rw [y2]
      unfold cbv
      rw [cbf_ct]
    rw [e]
    exact cx_co y1.2.1 y1.2.2.1 (Or.inr (Or.inr y1.2.2.2.2.2.1))
  · rw [y2]
    exact cc_u y1⟩
theorem CJ_of (I : IC h) (x : CLU U S h) : CJ U S (hF h 3 3) (hA h 27) (hA h 28) h := ⟨I, CSP_of I x.1, rfl, rfl⟩
theorem CRT_of (I : IC h) (x : CLU U S h) : CRT U S (hF h 3 3) (hF h 3 4) (fun k => hA h (6 + k)) := by
  have n16 := ic_cc I
  have n8 := ic_lc I
  refine ⟨fun i hi => ?_, fun i q j hi hj => ?_, fun i hi => cbf_1 _ _, fun l h0 hl => x.2.1 l.toNat (by omega) (by omega)⟩
  · obtain ⟨t, c, f, y1, y2, y3⟩ := x.1 i (by omega) hi
    rw [y2]
    exact CWF_of y3 y1.2.2.1 y1.2.2.2.2.2.2
  · obtain ⟨t, c, f, y1, y2, y3⟩ := x.1 i (by omega) hi
    rw [y2, ctn_o (by omega)]
    exact y1.2.2.1.2.2.1 q j hj
theorem UHW_al (I : IC h) (x : CLU U S h) : ∀ i : Nat, (i : Int) < hF h 3 3 → UHW (U i) (S i) := fun i hi => by
  have n16 := ic_cc I
  obtain ⟨t, c, f, y1, y2, y3⟩ := x.1 i (by omega) hi
  rw [y2]
  exact UHW_of y3
theorem RCA_of (B : BK h) (x : CLU U S h) : ∀ c : Nat, (c : Int) < hF h 3 3 → RCA (hA h) U S c ∧ ∀ j, -1 ≤ U c j := fun c hc => by
  have n16 := ic_cc B.1
  obtain ⟨t, tc, f, y1, y2, y3⟩ := x.1 c (by omega) hc
  obtain ⟨t', tc', s', f', z1, z2, z3⟩ := B.2.2.2.2.1.2.2.1 c (by omega) hc
  obtain ⟨e1, e2, e3⟩ := CC_uni y1 z1
  have u1 := cc_u y1
  have u2 := cc_u z1
  rw [← e2, ← e3] at u2
  rw [← e3] at z2 z3
  have eu : U c = ctn f' (S c) := by rw [y2, ← u1, u2]
  rw [show 16 * 0 + c = c by omega] at z2
  have rr : ∀ j, j < S c → RY (rwA (hA h) (12 * c + j)) f' (j * 21) := fun j hj => by
    have := z3 j hj
    rw [show 192 * 0 + 12 * c + j = 12 * c + j by omega] at this
    exact this
  refine ⟨⟨z2, fun k hk => ⟨?_, fun j hj => ?_⟩, ?_⟩, fun j => ?_⟩
  · have w : ∀ o, o < 7 → hA h (vq o) (vk (12 * c + k) o) = U c (21 * k + o) := fun o ho => by
      rw [eu, ctn_o (by omega), show 21 * k + o = k * 21 + o by omega]
      exact ry_o (rr k hk) (by omega)
    have v : ∀ i, 1 * i + 0 = i := fun i => by omega
    have w0 := w 0 (by omega)
    have w1 := w 1 (by omega)
    have w2 := w 2 (by omega)
    have w3 := w 3 (by omega)
    have w4 := w 4 (by omega)
    have w5 := w 5 (by omega)
    have w6 := w 6 (by omega)
    have k0 : vk (12 * c + k) 0 = 12 * c + k := v _
    have k1 : vk (12 * c + k) 1 = 12 * c + k := v _
    have k2 : vk (12 * c + k) 2 = 12 * c + k := v _
    have k3 : vk (12 * c + k) 3 = 12 * c + k := v _
    have k4 : vk (12 * c + k) 4 = 12 * c + k := v _
    have k5 : vk (12 * c + k) 5 = 12 * c + k := v _
    have k6 : vk (12 * c + k) 6 = 12 * c + k := v _
    rw [k0] at w0
    rw [k1] at w1
    rw [k2] at w2
    rw [k3] at w3
    rw [k4] at w4
    rw [k5] at w5
    rw [k6] at w6
    exact ⟨w0, w4, w5, w3, w1, w2, w6⟩
  · have w := ry_o (o := 10 + j) (rr k hk) (by omega)
    have hv : ∀ j, j < 5 → vq (10 + j) = 90 ∧ vm (10 + j) = 5 ∧ vo (10 + j) = j := by decide
    obtain ⟨v1, v2, v3⟩ := hv j hj
    have w2 : hA h (vq (10 + j)) (vm (10 + j) * (12 * c + k) + vo (10 + j)) = f' (k * 21 + (10 + j)) := w
    rw [v1, v2, v3] at w2
    rw [eu, show 21 * k + 10 + j = k * 21 + (10 + j) by omega, ctn_o (by omega), ← w2]
    exact congrArg (hA h 90) (by omega)
  · rw [eu]
    exact LH_of (A := hA h) (c := c) ⟨fun i _ => congrArg (hA h 91) (by omega), fun i _ => congrArg (hA h 92) (by omega), fun i _ => congrArg (hA h 89) (by omega)⟩ z2 rr
  · rw [y2, ← u1]
    exact (cx_co y1.2.1 y1.2.2.1 (Or.inr (Or.inr y1.2.2.2.2.2.1))).2.2.2.2.2.2.2.2.1 j |>.1
theorem RXX_of (B : BK h) (x : CLU U S h) {ro : Nat → Nat → Int} (er : ∀ l, l < 8 → ro l = hA h (6 + l)) : RXX h U S ro := by
  have n16 := ic_cc B.1
  have n8 := ic_lc B.1
  have n6 := ic_kc B.1
  have SS := B.2.2.2.2.1
  have c78 : hF h 3 3 = hA h 78 0 := SS.1.1.1
  have c79 : hF h 3 4 = hA h 79 0 := SS.1.1.2.1
  have c80 : hF h 3 5 = hA h 80 0 := SS.1.1.2.2
  have CR := CRT_of B.1 x
  have lw : ∀ l : Nat, (l : Int) < hA h 79 0 → LW h (hA h) 3 0 l := fun l h2 => SS.2.2.2.1 l (by omega) (by omega)
  refine ⟨fun c hc => (RCA_of B x c (by omega)).1, fun c l hc hl => ?_, fun c hc k hk => (CR.1 c (by omega)).2.2.1 k hk, fun l hl j hj => ?_, fun l j h1 h2 h3 h4 => ?_, fun c j h1 h2 h3 h4 => ?_⟩
  · have w := CR.1 c (by omega)
    have r : RLW (ro l) := by
      rw [er l (by omega)]
      exact x.2.1 l (by omega) (by omega)
    refine ⟨w.1, r, w.2.2.2.2.1, (RCA_of B x c (by omega)).2, fun j => ?_, w.2.2.2.2.2, w.2.1.2⟩
    rw [er l (by omega)]
    have := SS.2.1.2.1 l (by omega) j
    rw [show 3 + 3 + l = 6 + l by omega] at this
    exact this
  · have y := (lw l hl).1 j hj
    rw [er l (by omega), show 6 + l = 3 + 3 + l by omega, y]
    unfold lyb
    rw [show (14 * (l : Int) + (j : Int)).toNat = 196 * 0 + 14 * l + j by omega]
  · have y := (lw l.toNat (by omega)).1 j.toNat (by omega)
    have y2 := SS.2.1.2.1 l.toNat (by omega) j.toNat
    rw [show 196 * 0 + 14 * l.toNat + j.toNat = (14 * l + j).toNat by omega] at y
    by_cases e : hA h 93 (Int.toNat (14 * l + j)) = -2
    · omega
    · rw [if_neg e] at y
      rw [← y]
      exact y2
  · have y := SS.2.2.2.2 c.toNat (by omega) (by omega) j.toNat (by omega)
    have y2 := SS.2.1.2.2 c.toNat (by omega) j.toNat
    rw [show 196 * 0 + 112 + 14 * c.toNat + j.toNat = (112 + 14 * c + j).toNat by omega] at y
    rw [← y]
    exact y2
end
