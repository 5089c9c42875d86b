/-! WRITE: class and reference give the same -/
theorem RLW_g {ro : Nat → Int} (R : RLW ro) : ∀ j, j < 13 → rlo j ≤ ro j ∧ ro j ≤ rhi j := by
  obtain ⟨r0, r6, r7, r8, r9, r10, r11, r12⟩ := R
  intro j hj
  by_cases c : j < 6
  · have h := r0 j c
    have e1 : rlo j = 0 := if_neg (by omega)
    have e2 : rhi j = 2 := (if_neg (by omega)).trans (if_neg (by omega))
    omega
  · rcases (show j = 6 ∨ j = 7 ∨ j = 8 ∨ j = 9 ∨ j = 10 ∨ j = 11 ∨ j = 12 by omega) with e | e | e | e | e | e | e <;> subst e <;> simp [rlo, rhi] <;> omega
theorem RLW_mx {R : Nat → Nat → Int} {b : Nat → Int} {x : Int} (hb : RLW b) : ∀ c : Nat, (∀ q, q < c → RQW (R q)) → RLW (mxf R b x c) := by
  intro c
  induction c with
  | zero => intro _; exact hb
  | succ c ih =>
    intro hR
    have i := ih (fun q hq => hR q (by omega))
    by_cases e : av_w (av_and (av_shr x (c : Int)) 1) = 1
    · rw [mxf_y e]
      refine RLW_of (fun j hj => ?_)
      show rlo j ≤ (if j < 14 ∧ R c j ≠ -2 then R c j else mxf R b x c j) ∧ (if j < 14 ∧ R c j ≠ -2 then R c j else mxf R b x c j) ≤ rhi j
      split
      · next z => exact (hR c (by omega) j hj).resolve_left z.2
      · exact RLW_g i j hj
    · rw [mxf_n e]
      exact i
theorem RLW_pl {f p : Nat → Int} (R : RLW p) : RLW (plr f p) := RLW_of (fun j hj => by rw [plr_lt (by omega)]; exact RLW_g R j hj)
section
variable {h : av_H} {U : Nat → Nat → Int} {S : Nat → Nat}
theorem RLW_al (I : IC h) (x : CLU U S h) (f : Nat → Int) (b : Int) (l : Nat) (hl : (l : Int) < hF h 3 4) : RLW (MXL h f b l) := by
  have n8 := ic_lc I
  have n6 := ic_kc I
  exact RLW_mx (RLW_pl (x.2.1 l (by omega) hl)) _ (fun q hq => x.2.2.1 q (by omega) (by omega))
theorem RXM_of {g : av_H} (B : BK h) (x : CLU U S h) {ro : Nat → Nat → Int} (RX : RXX h U S ro) (F : CF0 g h) (Ig : IC g) (f : Nat → Int) (bf : ∀ j, -2 ≤ f j ∧ f j ≤ 999) (er : ∀ l, l < 8 → ro l = hA g (6 + l)) (b : Int) : RXM h U S b (fun l => MXL g f b l) := by
  have n16 := ic_cc B.1
  have n8 := ic_lc B.1
  have n6 := ic_kc B.1
  have SS := B.2.2.2.2.1
  have c79 : hF h 3 4 = hA h 79 0 := SS.1.1.2.1
  have c80 : hF h 3 5 = hA h 80 0 := SS.1.1.2.2
  have eM : ∀ l, l < 8 → MXL g f b l = MXL h f b l := fun l hl => by
    unfold MXL
    rw [F.2.1.2.2.1, F.2.2.2.1 (6 + l) (by omega) (by omega)]
    exact (mxf_c _ (fun q hq => F.2.2.2.1 (15 + q) (by omega) (by have := F.2.1.2.2.1; omega))).symm
  refine ⟨fun l hl j hj => ?_, fun c l hc hl => ?_⟩
  · show _ = MXL g f b l j
    rw [eM l (by omega)]
    unfold MXL
    rw [c80]
    refine (mxf_lyf _ (fun j hj => ?_) (fun q hq j hj => ?_) j hj).symm
    · rw [plr_lt (by omega), RX.2.2.2.1 l hl j hj, er l (by omega)]
      exact congrFun (F.2.2.2.1 (6 + l) (by omega) (by omega)) j
    · have y := SS.2.2.2.2 q (by omega) (by omega) j (by omega)
      rw [show 196 * 0 + 112 + 14 * q + j = (112 + 14 * (q : Int) + (j : Int)).toNat by omega] at y
      exact y
  · have w := RX.2.1 c l hc hl
    refine ⟨w.1, ?_, w.2.2.1, w.2.2.2.1, fun j => ?_, w.2.2.2.2.2.1, w.2.2.2.2.2.2⟩
    · show RLW (MXL g f b l)
      rw [eM l (by omega)]
      exact RLW_al B.1 x f b l (by omega)
    · show -2 ≤ MXL g f b l j ∧ MXL g f b l j ≤ 999
      have k6 := ic_kc Ig
      exact mxf_bd (plr_bd bf (Ig.2.1 _ (rwc_l (by omega)))) _ (fun q hq => Ig.2.1 _ (rwc_q (by omega))) j
end
theorem oz_115 {h : av_H} (B : BX h) (x1 : Int) (q1 : -2147483648 ≤ x1 ∧ x1 ≤ 2147483647) : av_wp none cd_115 0 [some (.inr (.inr (.inl (some (0))))), some (.inl x1), none, none, none, none] [] h (OPX cd_204 [some (.inr (.inr (.inl (some (77))))), some (.inl x1), none, none] h (fun x y => x = y)) := by
  refine gd_of (fun hg => ?_)
  obtain ⟨B0, U, S, C, SU⟩ := B
  refine cx_115 (CJ_of B0.1 C) x1 q1 (CRT_of B0.1 C) SU (f30 := hA h 30) (fun _ _ => rfl) (fun b _ l h0 h1 => RLW_al B0.1 C (hA h 30) (b : Int) (Int.toNat l) (by omega)) (fun v h1 sr' nd' J1 F1 SU1 p1 => ⟨v, rfl, ly_k J1.1.1 77 rfl, gd_of (fun hg1 => ?_)⟩)
  have B1 := BK_Fr hg B0 F1 J1.1
  obtain ⟨C1, C2⟩ := CLS_lk hg B0.1 C J1 F1 SU1
  have RX := RXX_of B1 C1 (ro := fun k => hA h (6 + k)) (fun l hl => ((CF0_Fr hg B0.1.1 F1).2.2.2.1 (6 + l) (by omega) (by omega)).symm)
  obtain ⟨c78, c79, c80⟩ := c78_of hg B0.1 F1 B1
  obtain ⟨n, a, m, M⟩ := B1.2.2.1
  have MX := fun b : Nat => fun _ : b < 64 => RXM_of B1 C1 RX (CF0_Fr hg B0.1.1 F1) B0.1 (hA h 30) (B0.1.2.1 30 rfl) (fun l _ => rfl) (b : Int)
  refine cx_204 M (FM_rf h1) RX (mx := fun b l => MXL h (hA h 30) (b : Int) l) MX x1 q1 (fun w n' a' m' h2 p2 M2 F2 => ⟨w, rfl, ?_, ⟨BK_FM hg1 B1 F2 M2, CLS_FM hg1 F2 C2⟩, RM_0 (F2.1.trans F1.1) (F2.2.1.trans F1.2.1)⟩)
  rw [c78, c79] at p2
  rw [c80] at p2
  refine RSP_u p1 (RSP_i ?_ p2)
  have d := cbv_d (U (Int.toNat x1)) (S (Int.toNat x1))
  have d1 := cbf_1 (U (Int.toNat x1)) (S (Int.toNat x1))
  have l8 := ic_lc B0.1
  unfold okx
  omega
