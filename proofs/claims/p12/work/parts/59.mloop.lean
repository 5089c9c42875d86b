/-! THE REFERENCE BEGINS, AND READS ALL SAYINGS -/
def RY (R r : Nat → Int) (row : Nat) : Prop := RX 3 1 (0, 0, 0, -1) R r row
theorem ry_of {t : TT} {R r : Nat → Int} {row : Nat} (X : RX 3 1 t R r row) (h : t.2.2.2 = -1) : RY R r row := fun _ => X h
/-- a saying's row of the reference -/
def rwA (A : Nat → Nat → Int) (i : Nat) : Nat → Int := fun o => A (vq o) (vk i o)
theorem ry_eq {R R' r r' : Nat → Int} {row : Nat} (X : RY R r row) (e : ∀ o, o < 19 → R' o = R o) (e2 : ∀ o, o < 20 → r' (row + o) = r (row + o)) : RY R' r' row := fun z => by
  obtain ⟨x1, x2, x3, x4, x5⟩ := X z
  refine ⟨fun o h1 h2 => ?_, fun j hj => ?_, ?_, ?_, fun hw => ?_⟩
  · rw [e o (by omega), e2 o (by omega)]; exact x1 o h1 h2
  · rw [e _ (by omega), e _ (by omega), show row + 15 + j = row + (15 + j) by omega, e2 _ (by omega), show row + (15 + j) = row + 15 + j by omega]; exact x2 j hj
  · rw [e _ (by omega), e2 _ (by omega)]; exact x3
  · rw [e2 _ (by omega)]; exact x4
  · rw [e _ (by omega), e2 _ (by omega)]; exact x5 hw
/-- only sayings of the case c from k0 on changed -/
def FR2 (c k0 : Nat) (A0 A : Nat → Nat → Int) : Prop := ∀ a j, (∀ k o, k0 ≤ k → k < 12 → o < 19 → ¬ (vq o = a ∧ vk (12 * c + k) o = j)) → A a j = A0 a j
theorem FR2_rf {c k0 : Nat} {A : Nat → Nat → Int} : FR2 c k0 A A := fun _ _ _ => rfl
theorem FR2_s {c k0 k : Nat} {A0 A B : Nat → Nat → Int} (f : FR2 c k0 A0 A) (w : FRW (12 * c + k) A B) (h1 : k0 ≤ k) (h2 : k < 12) : FR2 c k0 A0 B := fun a j hj => (w a j (fun o ho => hj k o h1 h2 ho)).trans (f a j hj)
theorem FR2_row {c k0 i : Nat} {A0 A : Nat → Nat → Int} (f : FR2 c k0 A0 A) (hi : ∀ k, k0 ≤ k → k < 12 → 12 * c + k ≠ i) (o : Nat) (ho : o < 19) : rwA A i o = rwA A0 i o := f _ _ (fun k q h1 h2 h3 => vk_row h3 ho (hi k h1 h2))

set_option maxRecDepth 100000 in
set_option maxHeartbeats 4000000 in
theorem ct_136 {h : av_H} {b : Nat → Int} (L : LY h) (hb : hA h 94 = b) (bv : ∀ j, -128 ≤ b j ∧ b j ≤ 127) (x : Int) (n : Nat) (ex : x = (n : Int)) (hn : n ≤ 900) {Q : Option av_V → av_H → Prop} (hq : ∀ h', MT b n (adv b n (0, 0, 0, -1)) 0 (hA h) h' → FD h h' → Q none h') : av_wp none cd_136 0 [some (.inr (.inr (.inl (some (77))))), some (.inl x)] [] h Q := by
  subst ex
  have N0 : NS b n (hF h 77 17) (hF h 77 18) (hF h 77 19) (hF h 77 20) (hF h 77 21) (hF h 77 22) (hF h 77 23) (hF h 77 24) (hF h 77 25) (hA h) h := ⟨L, hb, bv, hn, rfl, rfl, rfl, rfl, rfl, rfl, rfl, rfl, rfl, rfl⟩
  have F0 := FD_rf h
  refine av_wp_seq 2 (pc' := 2) (lv' := [some (.inr (.inr (.inl (some (77))))), some (.inl (n : Int))]) (st' := [.inl (n : Int), .inr (.inr (.inl (some (77))))]) (h' := h) rfl ?_
  refine ns_p19 (p' := 5) rfl rfl N0 F0 (fun h1 N1 F1 => ?_)
  refine av_wp_seq 2 (pc' := 7) (lv' := [some (.inr (.inr (.inl (some (77))))), some (.inl (n : Int))]) (st' := [.inl (0), .inr (.inr (.inl (some (77))))]) (h' := h1) rfl ?_
  refine ns_p17 (p' := 10) rfl rfl N1 F1 (fun h2 N2 F2 => ?_)
  refine av_wp_seq 2 (pc' := 12) (lv' := [some (.inr (.inr (.inl (some (77))))), some (.inl (n : Int))]) (st' := [.inl (0), .inr (.inr (.inl (some (77))))]) (h' := h2) rfl ?_
  refine ns_p20 (p' := 15) rfl rfl N2 F2 (fun h3 N3 F3 => ?_)
  refine av_wp_seq 2 (pc' := 17) (lv' := [some (.inr (.inr (.inl (some (77))))), some (.inl (n : Int))]) (st' := [.inl (-1), .inr (.inr (.inl (some (77))))]) (h' := h3) rfl ?_
  refine ns_p18 (p' := 20) rfl rfl N3 F3 (fun h4 N4 F4 => ?_)
  refine av_wp_seq 2 (pc' := 22) (lv' := [some (.inr (.inr (.inl (some (77))))), some (.inl (n : Int))]) (st' := [.inl (0), .inr (.inr (.inl (some (77))))]) (h' := h4) rfl ?_
  refine ns_p25 (p' := 25) rfl rfl N4 F4 (by omega) (fun h5 N5 F5 => ?_)
  refine av_wp_seq 1 (pc' := 26) (lv' := [some (.inr (.inr (.inl (some (77))))), some (.inl (n : Int))]) (st' := [.inr (.inr (.inl (some (77))))]) (h' := h5) rfl ?_
  refine wq_cv (p' := 29) (av_qc (.invokevirtual 191) 130 0 0 8) 2 cd_130 [] (77) 8 [some (.inr (.inr (.inl (some (77))))), none] rfl rfl rfl pp_130 rfl rfl rfl (congrArg Prod.fst (ly_k N5.1 77 rfl)) rfl rfl rfl rfl ?_
  have w0 : WF n (0, 0, 0, -1) := ⟨Nat.zero_le _, Nat.zero_le _, hn, by show (0 : Int) ≤ 0 ∧ (0 : Int) ≤ 5; omega, by show (-1 : Int) ≤ -1 ∧ (-1 : Int) ≤ 900; omega⟩
  refine ct_130 (t := (0, 0, 0, -1)) N5 F5 w0 (fun h6 N6 F6 => ?_)
  show av_wp _ cd_136 29 [some (.inr (.inr (.inl (some (77))))), some (.inl (n : Int))] [] h6 _
  exact av_wp_ret (v := none) rfl rfl rfl (hq h6 ⟨N6, adv_ok w0⟩ F6)

set_option maxRecDepth 100000 in
set_option maxHeartbeats 4000000 in
theorem ct_146x {g h : av_H} {b : Nat → Int} {lim : Nat} {t : TT} {x17 : Int} {A : Nat → Nat → Int} (N : MT b lim t x17 A h) (F : FD g h) (c : Nat) (hc : c ≤ 15) (x : Int) (ex : x = (c : Int)) {Q : Option av_V → av_H → Prop} (hq : ∀ h', MT b lim (fal t) x17 A h' → FD g h' → Q none h') : av_wp none cd_146 0 [some (.inr (.inr (.inl (some (77))))), some (.inl x), some (.inl (12)), none, none, none] [] h Q := by
  have gw1 : t.1 ≤ 900 ∧ t.2.1 ≤ lim ∧ lim ≤ 900 := ⟨N.2.1.1, N.2.1.2.1, N.2.1.2.2.1⟩
  have gw2 : -1 ≤ t.2.2.2 ∧ t.2.2.2 ≤ 900 := N.2.1.2.2.2.2
  have gt := tok_f t N.2.1.2.2.2.1
  have gtr := gt.2.2.2.2
  clear gt
  subst ex
  refine av_wp_seq 7 (pc' := 8) (lv' := [some (.inr (.inr (.inl (some (77))))), some (.inl (c : Int)), some (.inl (12)), some (.inl (((12) * (c : Int)) + (12))), none, none]) (st' := [.inr (.inr (.inl (some (77))))]) (h' := h) rfl ?_
  refine wq_cv (p' := 11) (av_qc (.invokevirtual 261) 139 0 0 8) 1 cd_139 [] (77) 8 [some (.inr (.inr (.inl (some (77)))))] rfl rfl rfl pp_139 rfl rfl rfl (congrArg Prod.fst (ly_k N.1.1 77 rfl)) rfl rfl rfl rfl ?_
  refine ct_139 N F (fun v1 p2 => ?_)
  show av_wp _ cd_146 11 [some (.inr (.inr (.inl (some (77))))), some (.inl (c : Int)), some (.inl (12)), some (.inl (((12) * (c : Int)) + (12))), none, none] [.inl v1] h _
  refine av_wp_seq 2 (pc' := 15) (lv' := [some (.inr (.inr (.inl (some (77))))), some (.inl (c : Int)), some (.inl (12)), some (.inl (((12) * (c : Int)) + (12))), some (.inl v1), none]) (st' := [.inl v1]) (h' := h) rfl ?_
  refine wq_k1 (p' := 18) rfl rfl ⟨by omega, by omega⟩ (fun c3 => ?_) (fun c4 => ?_)
  · have c3 : v1 < (0) := c3
    refine av_wp_seq 1 (pc' := 25) (lv' := [some (.inr (.inr (.inl (some (77))))), some (.inl (c : Int)), some (.inl (12)), some (.inl (((12) * (c : Int)) + (12))), some (.inl v1), none]) (st' := [.inr (.inr (.inl (some (77))))]) (h' := h) rfl ?_
    refine wq_cv (p' := 28) (av_qc (.invokevirtual 194) 131 0 0 8) 1 cd_131 [] (77) 8 [some (.inr (.inr (.inl (some (77)))))] rfl rfl rfl pp_131 rfl rfl rfl (congrArg Prod.fst (ly_k N.1.1 77 rfl)) rfl rfl rfl rfl ?_
    refine ct_131 N F (fun h5 N6 F7 => ?_)
    show av_wp _ cd_146 28 [some (.inr (.inr (.inl (some (77))))), some (.inl (c : Int)), some (.inl (12)), some (.inl (((12) * (c : Int)) + (12))), some (.inl v1), none] [] h5 _
    refine av_wp_ret (v := none) rfl rfl rfl ?_
    exact hq h5 N6 F7
  · have c4 : (0) ≤ v1 := c4
    refine av_wp_seq 4 (pc' := 25) (lv' := [some (.inr (.inr (.inl (some (77))))), some (.inl (c : Int)), some (.inl (12)), some (.inl (((12) * (c : Int)) + (12))), some (.inl v1), none]) (st' := [.inr (.inr (.inl (some (77))))]) (h' := h) rfl ?_
    refine wq_cv (p' := 28) (av_qc (.invokevirtual 194) 131 0 0 8) 1 cd_131 [] (77) 8 [some (.inr (.inr (.inl (some (77)))))] rfl rfl rfl pp_131 rfl rfl rfl (congrArg Prod.fst (ly_k N.1.1 77 rfl)) rfl rfl rfl rfl ?_
    refine ct_131 N F (fun h8 N9 F10 => ?_)
    show av_wp _ cd_146 28 [some (.inr (.inr (.inl (some (77))))), some (.inl (c : Int)), some (.inl (12)), some (.inl (((12) * (c : Int)) + (12))), some (.inl v1), none] [] h8 _
    refine av_wp_ret (v := none) rfl rfl rfl ?_
    exact hq h8 N9 F10

set_option maxRecDepth 100000 in
set_option maxHeartbeats 4000000 in
theorem ct_147 {g h : av_H} {b : Nat → Int} {lim : Nat} {t : TT} {x17 : Int} (N : MT b lim t x17 (hA h) h) (F : FD g h) (B : BN (hA h)) (c k0 : Nat) (hc : c ≤ 15) (hk : k0 ≤ 12) (ht : t.2.2.2 = -1) (x y : Int) (ex : x = (c : Int)) (ey : y = (k0 : Int)) {r : Nat → Int} (rel : ∀ j, j < k0 → RY (rwA (hA h) (12 * c + j)) r (j * 21)) {Q : Option av_V → av_H → Prop} (hq : ∀ (v : Int) h', MT b lim (rbA b lim (c : Int) k0 t r).2.1 x17 (hA h') h' → FD g h' → BN (hA h') → FR2 c k0 (hA h) (hA h') → ((rbA b lim (c : Int) k0 t r).2.1.2.2.2 = -1 → v = ((rbA b lim (c : Int) k0 t r).1 : Int) ∧ ∀ j, j < (rbA b lim (c : Int) k0 t r).1 → RY (rwA (hA h') (12 * c + j)) (rbA b lim (c : Int) k0 t r).2.2 (j * 21)) → ((rbA b lim (c : Int) k0 t r).2.1.2.2.2 ≠ -1 → v = -1) → Q (some (.inl v)) h') : av_wp none cd_147 0 [some (.inr (.inr (.inl (some (77))))), some (.inl x), some (.inl y), none] [] h Q := by
  subst ex
  subst ey
  have gt0 := (tok_f t N.2.1.2.2.2.1).2.2.1
  have gtr := (tok_f t N.2.1.2.2.2.1).2.2.2.2
  refine av_wp_seq 3 (pc' := 3) (lv' := [some (.inr (.inr (.inl (some (77))))), some (.inl (c : Int)), some (.inl (k0 : Int)), some (.inl (k0 : Int))]) (st' := [.inr (.inr (.inl (some (77))))]) (h' := h) rfl ?_
  refine wq_gi (p' := 6) rfl rfl (congrArg Prod.fst (ly_k N.1.1 77 rfl)) rfl (ns_22 N.1) ?_
  refine wq_k1 (p' := 9) rfl rfl ⟨by omega, by omega⟩ (fun c1 => ?_) (fun c2 => ?_)
  · have c1 : (tokv t) ≠ (0) := c1
    have L : ∀ (n k : Nat) (t1 : TT) (r1 : Nat → Int) (h1 : av_H), n + k = 13 → k ≤ 12 → k0 ≤ k → (k0 < k ∨ (t1.2.2.2 = -1 ∧ t1.2.2.1 ≠ 0)) → MT b lim t1 x17 (hA h1) h1 → FD g h1 → BN (hA h1) → FR2 c k0 (hA h) (hA h1) → (t1.2.2.2 = -1 → ∀ j, j < k → RY (rwA (hA h1) (12 * c + j)) r1 (j * 21)) → rbf b lim (c : Int) n k t1 r1 = rbf b lim (c : Int) (13 - k0) k0 t r → av_wp none cd_147 13 [some (.inr (.inr (.inl (some (77))))), some (.inl (c : Int)), some (.inl (k0 : Int)), some (.inl (k : Int))] [] h1 Q := by
      intro n
      induction n with
      | zero => intro k t1 r1 h1 e1 e2; exfalso; omega
      | succ n ih =>
        intro k t1 r1 h1 e1 e2 e3 e4 N1 F1 B1 W1 Y1 he
        have gt0 := (tok_f t1 N1.2.1.2.2.2.1).2.2.1
        have gtr := (tok_f t1 N1.2.1.2.2.2.1).2.2.2.2
        have gwr1 := wr_f t1
        have rl : t1.2.2.2 = -1 → ∀ s, s < k → hA h1 82 (12 * c + s) = r1 (s * 21) ∧ hA h1 83 (12 * c + s) = r1 (s * 21 + 1) ∧ hA h1 84 (12 * c + s) = r1 (s * 21 + 2) := fun z s hs => by
          have y := (Y1 z s hs rfl).1
          have y0 : hA h1 82 (1 * (12 * c + s) + 0) = r1 (s * 21 + 0) := y 0 (by omega) (by omega)
          have y1 : hA h1 83 (1 * (12 * c + s) + 0) = r1 (s * 21 + 1) := y 1 (by omega) (by omega)
          have y2 : hA h1 84 (1 * (12 * c + s) + 0) = r1 (s * 21 + 2) := y 2 (by omega) (by omega)
          rw [show 1 * (12 * c + s) + 0 = 12 * c + s by omega] at y0 y1 y2
          exact ⟨y0, y1, y2⟩
        refine av_wp_seq 1 (pc' := 14) (lv' := [some (.inr (.inr (.inl (some (77))))), some (.inl (c : Int)), some (.inl (k0 : Int)), some (.inl (k : Int))]) (st' := [.inr (.inr (.inl (some (77))))]) (h' := h1) rfl ?_
        refine wq_gi (p' := 17) rfl rfl (congrArg Prod.fst (ly_k N1.1.1 77 rfl)) rfl (ns_22 N1.1) ?_
        refine wq_k1 (p' := 20) rfl rfl ⟨by omega, by omega⟩ (fun c3 => ?_) (fun c4 => ?_)
        · have c3 : (tokv t1) = (0) := c3
          have hX : rbA b lim (c : Int) k0 t r = (k, t1, r1) := by
            have hx : rbf b lim (c : Int) (13 - k0) k0 t r = (k, t1, r1) := by rw [← he]; unfold rbf; rw [if_neg (by omega)]
            simp only [rbA, hx, if_neg (show ¬ k = k0 by omega)]
          refine av_wp_seq 1 (pc' := 40) (lv' := [some (.inr (.inr (.inl (some (77))))), some (.inl (c : Int)), some (.inl (k0 : Int)), some (.inl (k : Int))]) (st' := [.inr (.inr (.inl (some (77))))]) (h' := h1) rfl ?_
          refine wq_gb (p' := 43) rfl rfl (congrArg Prod.fst (ly_k N1.1.1 77 rfl)) rfl (ns_25 N1.1) ?_
          refine wq_k1 (p' := 46) rfl rfl ⟨by omega, by omega⟩ (fun c5 => ?_) (fun c6 => ?_)
          · have c5 : (wrv t1) = (0) := c5
            refine av_wp_seq 1 (pc' := 51) (lv' := [some (.inr (.inr (.inl (some (77))))), some (.inl (c : Int)), some (.inl (k0 : Int)), some (.inl (k : Int))]) (st' := [.inl (k : Int)]) (h' := h1) rfl ?_
            refine av_wp_ret (v := some (.inl (k : Int))) rfl rfl rfl ?_
            rw [hX] at hq
            exact hq _ h1 N1 F1 B1 W1 (fun z => ⟨rfl, Y1 z⟩) (fun z => absurd (show t1.2.2.2 = -1 by omega) z)
          · have c6 : (wrv t1) ≠ (0) := c6
            refine av_wp_seq 2 (pc' := 51) (lv' := [some (.inr (.inr (.inl (some (77))))), some (.inl (c : Int)), some (.inl (k0 : Int)), some (.inl (k : Int))]) (st' := [.inl (-1)]) (h' := h1) rfl ?_
            refine av_wp_ret (v := some (.inl (-1))) rfl rfl rfl ?_
            rw [hX] at hq
            exact hq _ h1 N1 F1 B1 W1 (fun z => absurd (show t1.2.2.2 = -1 from z) (by omega)) (fun _ => rfl)
        · have c4 : (tokv t1) ≠ (0) := c4
          refine av_wp_seq 1 (pc' := 21) (lv' := [some (.inr (.inr (.inl (some (77))))), some (.inl (c : Int)), some (.inl (k0 : Int)), some (.inl (k : Int))]) (st' := [.inr (.inr (.inl (some (77))))]) (h' := h1) rfl ?_
          refine wq_gb (p' := 24) rfl rfl (congrArg Prod.fst (ly_k N1.1.1 77 rfl)) rfl (ns_25 N1.1) ?_
          refine wq_k1 (p' := 27) rfl rfl ⟨by omega, by omega⟩ (fun c7 => ?_) (fun c8 => ?_)
          · have c7 : (wrv t1) ≠ (0) := c7
            have hX : rbA b lim (c : Int) k0 t r = (k, t1, r1) := by
              have hx : rbf b lim (c : Int) (13 - k0) k0 t r = (k, t1, r1) := by rw [← he]; unfold rbf; rw [if_neg (by omega)]
              simp only [rbA, hx, if_neg (show ¬ k = k0 by omega)]
            refine av_wp_seq 1 (pc' := 40) (lv' := [some (.inr (.inr (.inl (some (77))))), some (.inl (c : Int)), some (.inl (k0 : Int)), some (.inl (k : Int))]) (st' := [.inr (.inr (.inl (some (77))))]) (h' := h1) rfl ?_
            refine wq_gb (p' := 43) rfl rfl (congrArg Prod.fst (ly_k N1.1.1 77 rfl)) rfl (ns_25 N1.1) ?_
            refine wq_k1 (p' := 46) rfl rfl ⟨by omega, by omega⟩ (fun c9 => ?_) (fun c10 => ?_)
            · have c9 : (wrv t1) = (0) := c9
              refine av_wp_seq 1 (pc' := 51) (lv' := [some (.inr (.inr (.inl (some (77))))), some (.inl (c : Int)), some (.inl (k0 : Int)), some (.inl (k : Int))]) (st' := [.inl (k : Int)]) (h' := h1) rfl ?_
              refine av_wp_ret (v := some (.inl (k : Int))) rfl rfl rfl ?_
              rw [hX] at hq
              exact hq _ h1 N1 F1 B1 W1 (fun z => ⟨rfl, Y1 z⟩) (fun z => absurd (show t1.2.2.2 = -1 by omega) z)
            · have c10 : (wrv t1) ≠ (0) := c10
              refine av_wp_seq 2 (pc' := 51) (lv' := [some (.inr (.inr (.inl (some (77))))), some (.inl (c : Int)), some (.inl (k0 : Int)), some (.inl (k : Int))]) (st' := [.inl (-1)]) (h' := h1) rfl ?_
              refine av_wp_ret (v := some (.inl (-1))) rfl rfl rfl ?_
              rw [hX] at hq
              exact hq _ h1 N1 F1 B1 W1 (fun z => absurd (show t1.2.2.2 = -1 from z) (by omega)) (fun _ => rfl)
          · have c8 : (wrv t1) = (0) := c8
            by_cases ek : k = 12
            · subst ek
              show av_wp none cd_147 27 [some (.inr (.inr (.inl (some (77))))), some (.inl (c : Int)), some (.inl (k0 : Int)), some (.inl (12))] [] h1 Q
              refine av_wp_seq 3 (pc' := 30) (lv' := [some (.inr (.inr (.inl (some (77))))), some (.inl (c : Int)), some (.inl (k0 : Int)), some (.inl (12))]) (st' := [.inl (12), .inl (c : Int), .inr (.inr (.inl (some (77))))]) (h' := h1) rfl ?_
              refine wq_cv (p' := 33) (av_qc (.invokevirtual 289) 146 2 0 8) 6 cd_146 [.inl (12), .inl (c : Int)] (77) 8 [some (.inr (.inr (.inl (some (77))))), some (.inl (c : Int)), some (.inl (12)), none, none, none] rfl rfl rfl pp_146 rfl rfl rfl (congrArg Prod.fst (ly_k N1.1.1 77 rfl)) rfl rfl rfl rfl ?_
              refine ct_146x N1 F1 c (by omega) _ rfl (fun h11 N12 F13 => ?_)
              generalize q15 : fal t1 = t14 at N12
              have gf : t14.2.2.2 ≠ -1 := by rw [← q15]; exact fal_ne
              have gwrt14 := wr_f t14
              have gtkt14 := (tok_f t14 N12.2.1.2.2.2.1).2.2.2.2
              have ahh11 : hA h11 = hA h1 := ns_A N12.1
              show av_wp _ cd_147 33 [some (.inr (.inr (.inl (some (77))))), some (.inl (c : Int)), some (.inl (k0 : Int)), some (.inl (12))] [] h11 _
              refine av_wp_seq 2 (pc' := 13) (lv' := [some (.inr (.inr (.inl (some (77))))), some (.inl (c : Int)), some (.inl (k0 : Int)), some (.inl (13))]) (st' := []) (h' := h11) rfl ?_
              refine av_wp_seq 1 (pc' := 14) (lv' := [some (.inr (.inr (.inl (some (77))))), some (.inl (c : Int)), some (.inl (k0 : Int)), some (.inl (13))]) (st' := [.inr (.inr (.inl (some (77))))]) (h' := h11) rfl ?_
              refine wq_gi (p' := 17) rfl rfl (congrArg Prod.fst (ly_k N12.1.1 77 rfl)) rfl (ns_22 N12.1) ?_
              refine wq_k1 (p' := 20) rfl rfl ⟨by omega, by omega⟩ (fun c16 => ?_) (fun c17 => ?_)
              · have c16 : (tokv t14) = (0) := c16
                have hX : rbA b lim (c : Int) k0 t r = (12, t14, r1) := by
                  have hx : rbf b lim (c : Int) (13 - k0) k0 t r = (12, t14, r1) := by rw [← he]; unfold rbf; rw [if_pos (by omega), if_pos rfl, q15]
                  simp only [rbA, hx]
                  split
                  · rw [fal_id gf]
                  · rfl
                refine av_wp_seq 1 (pc' := 40) (lv' := [some (.inr (.inr (.inl (some (77))))), some (.inl (c : Int)), some (.inl (k0 : Int)), some (.inl (13))]) (st' := [.inr (.inr (.inl (some (77))))]) (h' := h11) rfl ?_
                refine wq_gb (p' := 43) rfl rfl (congrArg Prod.fst (ly_k N12.1.1 77 rfl)) rfl (ns_25 N12.1) ?_
                refine wq_k1 (p' := 46) rfl rfl ⟨by omega, by omega⟩ (fun c18 => ?_) (fun c19 => ?_)
                · have c18 : (wrv t14) = (0) := c18
                  exfalso; omega
                · have c19 : (wrv t14) ≠ (0) := c19
                  refine av_wp_seq 2 (pc' := 51) (lv' := [some (.inr (.inr (.inl (some (77))))), some (.inl (c : Int)), some (.inl (k0 : Int)), some (.inl (13))]) (st' := [.inl (-1)]) (h' := h11) rfl ?_
                  refine av_wp_ret (v := some (.inl (-1))) rfl rfl rfl ?_
                  rw [hX] at hq
                  exact hq _ h11 (by rw [ahh11]; exact N12) F13 (by rw [ahh11]; exact B1) (by rw [ahh11]; exact W1) (fun z => absurd z gf) (fun _ => rfl)
              · have c17 : (tokv t14) ≠ (0) := c17
                refine av_wp_seq 1 (pc' := 21) (lv' := [some (.inr (.inr (.inl (some (77))))), some (.inl (c : Int)), some (.inl (k0 : Int)), some (.inl (13))]) (st' := [.inr (.inr (.inl (some (77))))]) (h' := h11) rfl ?_
                refine wq_gb (p' := 24) rfl rfl (congrArg Prod.fst (ly_k N12.1.1 77 rfl)) rfl (ns_25 N12.1) ?_
                refine wq_k1 (p' := 27) rfl rfl ⟨by omega, by omega⟩ (fun c20 => ?_) (fun c21 => ?_)
                · have c20 : (wrv t14) ≠ (0) := c20
                  have hX : rbA b lim (c : Int) k0 t r = (12, t14, r1) := by
                    have hx : rbf b lim (c : Int) (13 - k0) k0 t r = (12, t14, r1) := by rw [← he]; unfold rbf; rw [if_pos (by omega), if_pos rfl, q15]
                    simp only [rbA, hx]
                    split
                    · rw [fal_id gf]
                    · rfl
                  refine av_wp_seq 1 (pc' := 40) (lv' := [some (.inr (.inr (.inl (some (77))))), some (.inl (c : Int)), some (.inl (k0 : Int)), some (.inl (13))]) (st' := [.inr (.inr (.inl (some (77))))]) (h' := h11) rfl ?_
                  refine wq_gb (p' := 43) rfl rfl (congrArg Prod.fst (ly_k N12.1.1 77 rfl)) rfl (ns_25 N12.1) ?_
                  refine wq_k1 (p' := 46) rfl rfl ⟨by omega, by omega⟩ (fun c22 => ?_) (fun c23 => ?_)
                  · have c22 : (wrv t14) = (0) := c22
                    exfalso; omega
                  · have c23 : (wrv t14) ≠ (0) := c23
                    refine av_wp_seq 2 (pc' := 51) (lv' := [some (.inr (.inr (.inl (some (77))))), some (.inl (c : Int)), some (.inl (k0 : Int)), some (.inl (13))]) (st' := [.inl (-1)]) (h' := h11) rfl ?_
                    refine av_wp_ret (v := some (.inl (-1))) rfl rfl rfl ?_
                    rw [hX] at hq
                    exact hq _ h11 (by rw [ahh11]; exact N12) F13 (by rw [ahh11]; exact B1) (by rw [ahh11]; exact W1) (fun z => absurd z gf) (fun _ => rfl)
                · have c21 : (wrv t14) = (0) := c21
                  exfalso; omega
            · have rl := rl (by omega)
              refine av_wp_seq 3 (pc' := 30) (lv' := [some (.inr (.inr (.inl (some (77))))), some (.inl (c : Int)), some (.inl (k0 : Int)), some (.inl (k : Int))]) (st' := [.inl (k : Int), .inl (c : Int), .inr (.inr (.inl (some (77))))]) (h' := h1) rfl ?_
              refine wq_cv (p' := 33) (av_qc (.invokevirtual 289) 146 2 0 8) 6 cd_146 [.inl (k : Int), .inl (c : Int)] (77) 8 [some (.inr (.inr (.inl (some (77))))), some (.inl (c : Int)), some (.inl (k : Int)), none, none, none] rfl rfl rfl pp_146 rfl rfl rfl (congrArg Prod.fst (ly_k N1.1.1 77 rfl)) rfl rfl rfl rfl ?_
              refine ct_146 N1 F1 B1 c k (by omega) (by omega) _ _ rfl rfl (r := r1) (fun s hs => rl s hs) (fun h24 R25 M26 F27 X28 => ?_)
              show av_wp _ cd_147 33 [some (.inr (.inr (.inl (some (77))))), some (.inl (c : Int)), some (.inl (k0 : Int)), some (.inl (k : Int))] [] h24 _
              refine av_wp_seq 2 (pc' := 13) (lv' := [some (.inr (.inr (.inl (some (77))))), some (.inl (c : Int)), some (.inl (k0 : Int)), some (.inl ((k : Int) + (1)))]) (st' := []) (h' := h24) rfl ?_
              have ok1 : t1.2.2.2 = -1 := by omega
              have fr : ∀ j, (j < k * 21 ∨ k * 21 + 21 ≤ j) → (rsy b lim k (c : Int) t1 r1).2 j = r1 j := fun j hj => rsy_fr hj
              have he2 : rbf b lim (c : Int) n (k + 1) (rsy b lim k (c : Int) t1 r1).1 (rsy b lim k (c : Int) t1 r1).2 = rbf b lim (c : Int) (13 - k0) k0 t r := by
                rw [← he]
                conv => rhs; unfold rbf
                rw [if_pos (by omega), if_neg (by omega)]
              refine ih (k + 1) _ _ h24 (by omega) (by omega) (by omega) (Or.inl (by omega)) M26.1 F27 M26.2.2.1 (FR2_s W1 M26.2.2.2 (by omega) (by omega)) (fun z j hj => ?_) he2
              by_cases ej : j = k
              · subst ej
                exact ry_eq (ry_of X28 z) (fun o ho => M26.2.1 o ho) (fun _ _ => rfl)
              · refine ry_eq (Y1 ok1 j (by omega)) (fun o ho => FRW_row M26.2.2.2 ho (by omega)) (fun o ho => fr _ (by omega))
    exact L (13 - k0) k0 t r h (by omega) (by omega) (Nat.le_refl _) (Or.inr (by omega)) N F B FR2_rf (fun _ => rel) rfl
  · have c2 : (tokv t) = (0) := c2
    refine av_wp_seq 1 (pc' := 10) (lv' := [some (.inr (.inr (.inl (some (77))))), some (.inl (c : Int)), some (.inl (k0 : Int)), some (.inl (k0 : Int))]) (st' := [.inr (.inr (.inl (some (77))))]) (h' := h) rfl ?_
    refine wq_cv (p' := 13) (av_qc (.invokevirtual 194) 131 0 0 8) 1 cd_131 [] (77) 8 [some (.inr (.inr (.inl (some (77)))))] rfl rfl rfl pp_131 rfl rfl rfl (congrArg Prod.fst (ly_k N.1.1 77 rfl)) rfl rfl rfl rfl ?_
    refine ct_131 N F (fun h29 N30 F31 => ?_)
    generalize q33 : fal t = t32 at N30
    have gf : t32.2.2.2 ≠ -1 := by rw [← q33]; exact fal_ne
    have gwrt32 := wr_f t32
    have gtkt32 := (tok_f t32 N30.2.1.2.2.2.1).2.2.2.2
    have ahh29 : hA h29 = hA h := ns_A N30.1
    show av_wp _ cd_147 13 [some (.inr (.inr (.inl (some (77))))), some (.inl (c : Int)), some (.inl (k0 : Int)), some (.inl (k0 : Int))] [] h29 _
    have hX : rbA b lim (c : Int) k0 t r = (k0, t32, r) := by
      have hx : rbf b lim (c : Int) (13 - k0) k0 t r = (k0, t, r) := by rw [show 13 - k0 = (12 - k0) + 1 by omega]; unfold rbf; rw [if_neg (by omega)]
      simp only [rbA, hx, if_true, q33]
    refine av_wp_seq 1 (pc' := 14) (lv' := [some (.inr (.inr (.inl (some (77))))), some (.inl (c : Int)), some (.inl (k0 : Int)), some (.inl (k0 : Int))]) (st' := [.inr (.inr (.inl (some (77))))]) (h' := h29) rfl ?_
    refine wq_gi (p' := 17) rfl rfl (congrArg Prod.fst (ly_k N30.1.1 77 rfl)) rfl (ns_22 N30.1) ?_
    refine wq_k1 (p' := 20) rfl rfl ⟨by omega, by omega⟩ (fun c34 => ?_) (fun c35 => ?_)
    · have c34 : (tokv t32) = (0) := c34
      refine av_wp_seq 1 (pc' := 40) (lv' := [some (.inr (.inr (.inl (some (77))))), some (.inl (c : Int)), some (.inl (k0 : Int)), some (.inl (k0 : Int))]) (st' := [.inr (.inr (.inl (some (77))))]) (h' := h29) rfl ?_
      refine wq_gb (p' := 43) rfl rfl (congrArg Prod.fst (ly_k N30.1.1 77 rfl)) rfl (ns_25 N30.1) ?_
      refine wq_k1 (p' := 46) rfl rfl ⟨by omega, by omega⟩ (fun c36 => ?_) (fun c37 => ?_)
      · have c36 : (wrv t32) = (0) := c36
        exfalso; omega
      · have c37 : (wrv t32) ≠ (0) := c37
        refine av_wp_seq 2 (pc' := 51) (lv' := [some (.inr (.inr (.inl (some (77))))), some (.inl (c : Int)), some (.inl (k0 : Int)), some (.inl (k0 : Int))]) (st' := [.inl (-1)]) (h' := h29) rfl ?_
        refine av_wp_ret (v := some (.inl (-1))) rfl rfl rfl ?_
        rw [hX] at hq
        exact hq _ h29 (by rw [ahh29]; exact N30) F31 (by rw [ahh29]; exact B) (by rw [ahh29]; exact FR2_rf) (fun z => absurd z gf) (fun _ => rfl)
    · have c35 : (tokv t32) ≠ (0) := c35
      refine av_wp_seq 1 (pc' := 21) (lv' := [some (.inr (.inr (.inl (some (77))))), some (.inl (c : Int)), some (.inl (k0 : Int)), some (.inl (k0 : Int))]) (st' := [.inr (.inr (.inl (some (77))))]) (h' := h29) rfl ?_
      refine wq_gb (p' := 24) rfl rfl (congrArg Prod.fst (ly_k N30.1.1 77 rfl)) rfl (ns_25 N30.1) ?_
      refine wq_k1 (p' := 27) rfl rfl ⟨by omega, by omega⟩ (fun c38 => ?_) (fun c39 => ?_)
      · have c38 : (wrv t32) ≠ (0) := c38
        refine av_wp_seq 1 (pc' := 40) (lv' := [some (.inr (.inr (.inl (some (77))))), some (.inl (c : Int)), some (.inl (k0 : Int)), some (.inl (k0 : Int))]) (st' := [.inr (.inr (.inl (some (77))))]) (h' := h29) rfl ?_
        refine wq_gb (p' := 43) rfl rfl (congrArg Prod.fst (ly_k N30.1.1 77 rfl)) rfl (ns_25 N30.1) ?_
        refine wq_k1 (p' := 46) rfl rfl ⟨by omega, by omega⟩ (fun c40 => ?_) (fun c41 => ?_)
        · have c40 : (wrv t32) = (0) := c40
          exfalso; omega
        · have c41 : (wrv t32) ≠ (0) := c41
          refine av_wp_seq 2 (pc' := 51) (lv' := [some (.inr (.inr (.inl (some (77))))), some (.inl (c : Int)), some (.inl (k0 : Int)), some (.inl (k0 : Int))]) (st' := [.inl (-1)]) (h' := h29) rfl ?_
          refine av_wp_ret (v := some (.inl (-1))) rfl rfl rfl ?_
          rw [hX] at hq
          exact hq _ h29 (by rw [ahh29]; exact N30) F31 (by rw [ahh29]; exact B) (by rw [ahh29]; exact FR2_rf) (fun z => absurd z gf) (fun _ => rfl)
      · have c39 : (wrv t32) = (0) := c39
        exfalso; omega
