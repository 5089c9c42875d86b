/-! WHAT A CASE IS GIVEN IS LEARNT, exactly -/
set_option maxRecDepth 100000 in
set_option maxHeartbeats 4000000 in
theorem cx_52 {h : av_H} {U : Nat → Nat → Int} {S : Nat → Nat} {n : Int} {sr nd : Nat → Int} (C : CJ U S n sr nd h) {t c s : Nat} {cb : Int} (o : CO h t c s cb) {u : Nat → Int} (hu : hA h c = u) (m : Int) (qm : 0 ≤ m ∧ m ≤ 15) (mn : m ≤ n) (WF : ∀ i : Nat, (i : Int) < n → CWF (U i) (S i) i) (GM : ∀ k, k < s → -1 ≤ u (21 * k + 6) ∧ u (21 * k + 6) < m) (CB16 : ∀ i q j : Nat, (i : Int) < n → j < 4 → U i (21 * q + 15 + j) ≤ 16) (CB1 : ∀ i : Nat, (i : Int) < n → 1 ≤ cbf (U i) (S i)) {r : Nat} (kr : hK h r = (20, 14)) (k2 : rwc r = true) {ro : Nat → Int} (hr : hA h r = ro) (r8 : -1 ≤ ro 8) (y : Int) (qy : 0 ≤ y ∧ y ≤ 128) (SU : SUI U S ro y (Int.toNat m) sr) {Q : Option av_V → av_H → Prop} (hq : ∀ h' sr' nd', CJ U S n sr' nd' h' → FS h h' → SUI U S ro y (Int.toNat m) sr' → (∀ q : Nat, ((q : Int) < y ∨ y + m ≤ (q : Int)) → sr' q = sr q) → (∀ g, gvn u s g → sr' (y.toNat + g) = srt U S ro (Int.toNat m) g ∧ (srt U S ro (Int.toNat m) g = 1 ∨ srt U S ro (Int.toNat m) g = 2)) → Q none h') : av_wp none cd_52 0 [some (.inr (.inr (.inl (some (26))))), some (.inr (.inr (.inl (some (t))))), some (.inl m), some (.inr (.inr (.inl (some (r))))), some (.inl y), none, none, none] [] h Q := by
  have F := FS_rf h
  have nr := C.2.1.2.1
  have s12 := co_s12 o
  refine av_wp_seq 3 (pc' := 3) (lv' := [some (.inr (.inr (.inl (some (26))))), some (.inr (.inr (.inl (some (t))))), some (.inl m), some (.inr (.inr (.inl (some (r))))), some (.inl y), none, none, none]) (st' := [.inl m, .inr (.inr (.inl (some (t)))), .inr (.inr (.inl (some (26))))]) (h' := h) rfl ?_
  refine wq_cv (p' := 6) (av_qc (.invokevirtual 104) 53 2 0 3) 6 cd_53 [.inl m, .inr (.inr (.inl (some (t))))] (26) 3 [some (.inr (.inr (.inl (some (26))))), some (.inr (.inr (.inl (some (t))))), some (.inl m), none, none, none] rfl rfl rfl pp_53 rfl rfl rfl (congrArg Prod.fst (ly_k C.1.1 26 rfl)) rfl rfl rfl rfl ?_
  refine cx_53 C o hu (m) (by omega) mn WF (fun v1 h2 n3 C4 F5 p6 => ?_)
  have F7 := FS_tr F (FS_j F5)
  show av_wp _ cd_52 6 [some (.inr (.inr (.inl (some (26))))), some (.inr (.inr (.inl (some (t))))), some (.inl m), some (.inr (.inr (.inl (some (r))))), some (.inl y), none, none, none] [.inl v1] h2 _
  refine wq_k1 (p' := 9) rfl rfl ⟨by omega, by omega⟩ (fun c8 => ?_) (fun c9 => ?_)
  · have c8 : v1 ≠ (0) := c8
    have N10 : NDI U S u s (Int.toNat m) (-1) n3 := p6.elim (fun z => by omega) (fun z => z.2)
    refine av_wp_seq 2 (pc' := 13) (lv' := [some (.inr (.inr (.inl (some (26))))), some (.inr (.inr (.inl (some (t))))), some (.inl m), some (.inr (.inr (.inl (some (r))))), some (.inl y), some (.inl (0)), none, none]) (st' := []) (h' := h2) rfl ?_
    have L20 : ∀ (m19 : Nat) (k11 : Int) (a12 : Option av_V) (a13 : Option av_V) (h14 : av_H) (r17 : Nat → Int), av_lg a12 = false → av_lg a13 = false → k11 ≤ m → (0 ≤ k11 ∧ k11 ≤ 15) → CJ U S n r17 n3 h14 → FS h h14 → (SUJ U S ro n3 y (Int.toNat m) (Int.toNat k11) r17 ∧ ∀ q : Nat, ((q : Int) < y ∨ y + m ≤ (q : Int)) → r17 q = sr q) → (16 - k11).toNat = m19 → av_wp none cd_52 13 [some (.inr (.inr (.inl (some (26))))), some (.inr (.inr (.inl (some (t))))), some (.inl m), some (.inr (.inr (.inl (some (r))))), some (.inl y), some (.inl k11), a12, a13] [] h14 Q := by
      intro m19
      induction m19 using Nat.strongRecOn with
      | _ m19 I21 =>
        intro k11 a12 a13 h14 r17 g23 g24 g25 g26 C15 F16 X18 e22
        have la12 := g23
        have la13 := g24
        refine av_wp_seq 2 (pc' := 16) (lv' := [some (.inr (.inr (.inl (some (26))))), some (.inr (.inr (.inl (some (t))))), some (.inl m), some (.inr (.inr (.inl (some (r))))), some (.inl y), some (.inl k11), a12, a13]) (st' := [.inl m, .inl k11]) (h' := h14) rfl ?_
        refine wq_k2 (p' := 19) rfl rfl ⟨by omega, by omega⟩ ⟨by omega, by omega⟩ (fun c27 => ?_) (fun c28 => ?_)
        · have c27 : m ≤ k11 := c27
          refine av_wp_ret (v := none) rfl rfl rfl ?_
          have z29 : Int.toNat k11 = Int.toNat m := by omega
          rw [z29] at X18
          exact hq h14 _ _ C15 F16 X18.1.1 X18.2 (SUJ_t X18.1 N10 (fun k hk => by have := GM k hk; omega))
        · have c28 : k11 < m := c28
          refine av_wp_seq 1 (pc' := 20) (lv' := [some (.inr (.inr (.inl (some (26))))), some (.inr (.inr (.inl (some (t))))), some (.inl m), some (.inr (.inr (.inl (some (r))))), some (.inl y), some (.inl k11), a12, a13]) (st' := [.inr (.inr (.inl (some (26))))]) (h' := h14) rfl ?_
          refine wq_gr (p' := 23) rfl rfl (congrArg Prod.fst (ly_k C15.1.1 26 rfl)) rfl (ly_g C15.1.1 26 0 3 rfl) ?_
          refine av_wp_seq 1 (pc' := 25) (lv' := [some (.inr (.inr (.inl (some (26))))), some (.inr (.inr (.inl (some (t))))), some (.inl m), some (.inr (.inr (.inl (some (r))))), some (.inl y), some (.inl k11), a12, a13]) (st' := [.inl k11, .inr (.inr (.inl (some (3))))]) (h' := h14) rfl ?_
          refine wq_cv (p' := 28) (av_qc (.invokevirtual 76) 69 1 0 5) 2 cd_69 [.inl k11] (3) 5 [some (.inr (.inr (.inl (some (3))))), some (.inl k11)] rfl rfl rfl pp_69 rfl rfl rfl (congrArg Prod.fst (ly_k C15.1.1 3 rfl)) rfl rfl rfl rfl ?_
          refine cz_69 C15 (k11) (by omega) (fun z30 => ?_) (fun z30 z31 t32 c33 y34 y35 => ?_)
          · show av_wp _ cd_52 28 [some (.inr (.inr (.inl (some (26))))), some (.inr (.inr (.inl (some (t))))), some (.inl m), some (.inr (.inr (.inl (some (r))))), some (.inl y), some (.inl k11), a12, a13] [.inr (.inr (.inl none))] h14 _
            refine av_wp_seq 5 (pc' := 13) (lv' := [some (.inr (.inr (.inl (some (26))))), some (.inr (.inr (.inl (some (t))))), some (.inl m), some (.inr (.inr (.inl (some (r))))), some (.inl y), some (.inl (k11 + (1))), some (.inr (.inr (.inl none))), a13]) (st' := []) (h' := h14) rfl ?_
            exact I21 _ (by omega) ((k11 + (1))) (some (.inr (.inr (.inl none)))) (a13) h14 r17 rfl la13 (by omega) (by omega) C15 F16 (by omega) rfl
          · have g36 := co_s12 y34
            have g37 := co_cbr y34
            show av_wp _ cd_52 28 [some (.inr (.inr (.inl (some (26))))), some (.inr (.inr (.inl (some (t))))), some (.inl m), some (.inr (.inr (.inl (some (r))))), some (.inl y), some (.inl k11), a12, a13] [.inr (.inr (.inl (some (t32))))] h14 _
            refine av_wp_seq 4 (pc' := 36) (lv' := [some (.inr (.inr (.inl (some (26))))), some (.inr (.inr (.inl (some (t))))), some (.inl m), some (.inr (.inr (.inl (some (r))))), some (.inl y), some (.inl k11), some (.inr (.inr (.inl (some (t32))))), a13]) (st' := [.inr (.inr (.inl (some (26))))]) (h' := h14) rfl ?_
            refine wq_gr (p' := 39) rfl rfl (congrArg Prod.fst (ly_k C15.1.1 26 rfl)) rfl (ly_g C15.1.1 26 5 28 rfl) ?_
            refine av_wp_seq 1 (pc' := 41) (lv' := [some (.inr (.inr (.inl (some (26))))), some (.inr (.inr (.inl (some (t))))), some (.inl m), some (.inr (.inr (.inl (some (r))))), some (.inl y), some (.inl k11), some (.inr (.inr (.inl (some (t32))))), a13]) (st' := [.inl k11, .inr (.inr (.inl (some (28))))]) (h' := h14) rfl ?_
            obtain ⟨v38, e39⟩ : ∃ v, n3 (Int.toNat (k11)) = v := ⟨_, rfl⟩
            have g40 := N10.1 (Int.toNat (k11)) (by omega)
            rw [e39] at g40
            refine wq_bl (p' := 42) (n := 16) rfl rfl ((Or.inr (ly_k C15.1.1 28 rfl))) (by omega) ((congrFun C15.2.2.2 _).trans e39) ?_
            refine wq_k1 (p' := 45) rfl rfl ⟨by omega, by omega⟩ (fun c41 => ?_) (fun c42 => ?_)
            · have c41 : v38 = (0) := c41
              refine av_wp_seq 2 (pc' := 13) (lv' := [some (.inr (.inr (.inl (some (26))))), some (.inr (.inr (.inl (some (t))))), some (.inl m), some (.inr (.inr (.inl (some (r))))), some (.inl y), some (.inl (k11 + (1))), some (.inr (.inr (.inl (some (t32))))), a13]) (st' := []) (h' := h14) rfl ?_
              exact I21 _ (by omega) ((k11 + (1))) (some (.inr (.inr (.inl (some (t32)))))) (a13) h14 r17 rfl la13 (by omega) (by omega) C15 F16 ⟨by rw [show Int.toNat (k11 + (1)) = Int.toNat k11 + 1 by omega]; exact SUJ_n X18.1 (by rw [e39]; omega), X18.2⟩ rfl
            · have c42 : v38 ≠ (0) := c42
              refine av_wp_seq 1 (pc' := 46) (lv' := [some (.inr (.inr (.inl (some (26))))), some (.inr (.inr (.inl (some (t))))), some (.inl m), some (.inr (.inr (.inl (some (r))))), some (.inl y), some (.inl k11), some (.inr (.inr (.inl (some (t32))))), a13]) (st' := [.inr (.inr (.inl (some (26))))]) (h' := h14) rfl ?_
              refine wq_gr (p' := 49) rfl rfl (congrArg Prod.fst (ly_k C15.1.1 26 rfl)) rfl (ly_g C15.1.1 26 4 27 rfl) ?_
              refine av_wp_seq 3 (pc' := 54) (lv' := [some (.inr (.inr (.inl (some (26))))), some (.inr (.inr (.inl (some (t))))), some (.inl m), some (.inr (.inr (.inl (some (r))))), some (.inl y), some (.inl k11), some (.inr (.inr (.inl (some (t32))))), a13]) (st' := [.inl (y + k11), .inr (.inr (.inl (some (27))))]) (h' := h14) rfl ?_
              obtain ⟨v43, e44⟩ : ∃ v, r17 (Int.toNat ((y + k11))) = v := ⟨_, rfl⟩
              have y46 : r17 (Int.toNat y + Int.toNat k11) = v43 := (congrArg r17 (by omega)).trans e44
              have g45 := SUI_v X18.1.1 (i := Int.toNat k11) (by omega)
              rw [y46] at g45
              refine wq_al (p' := 55) (n := 144) rfl rfl (ly_k C15.1.1 27 rfl) (by omega) ((congrFun C15.2.2.1 _).trans e44) ?_
              refine wq_k1 (p' := 58) rfl rfl ⟨by omega, by omega⟩ (fun c47 => ?_) (fun c48 => ?_)
              · have c47 : v43 ≠ (0) := c47
                refine av_wp_seq 2 (pc' := 13) (lv' := [some (.inr (.inr (.inl (some (26))))), some (.inr (.inr (.inl (some (t))))), some (.inl m), some (.inr (.inr (.inl (some (r))))), some (.inl y), some (.inl (k11 + (1))), some (.inr (.inr (.inl (some (t32))))), a13]) (st' := []) (h' := h14) rfl ?_
                exact I21 _ (by omega) ((k11 + (1))) (some (.inr (.inr (.inl (some (t32)))))) (a13) h14 r17 rfl la13 (by omega) (by omega) C15 F16 ⟨by rw [show Int.toNat (k11 + (1)) = Int.toNat k11 + 1 by omega]; exact SUJ_k X18.1 (by rw [y46]; omega), X18.2⟩ rfl
              · have c48 : v43 = (0) := c48
                refine av_wp_seq 1 (pc' := 59) (lv' := [some (.inr (.inr (.inl (some (26))))), some (.inr (.inr (.inl (some (t))))), some (.inl m), some (.inr (.inr (.inl (some (r))))), some (.inl y), some (.inl k11), some (.inr (.inr (.inl (some (t32))))), a13]) (st' := [.inr (.inr (.inl (some (26))))]) (h' := h14) rfl ?_
                refine wq_gr (p' := 62) rfl rfl (congrArg Prod.fst (ly_k C15.1.1 26 rfl)) rfl (ly_g C15.1.1 26 3 61 rfl) ?_
                refine av_wp_seq 3 (pc' := 66) (lv' := [some (.inr (.inr (.inl (some (26))))), some (.inr (.inr (.inl (some (t))))), some (.inl m), some (.inr (.inr (.inl (some (r))))), some (.inl y), some (.inl k11), some (.inr (.inr (.inl (some (t32))))), a13]) (st' := [.inr (.inr (.inl (some (26)))), .inr (.inr (.inl (some (r)))), .inr (.inr (.inl (some (t32)))), .inr (.inr (.inl (some (61))))]) (h' := h14) rfl ?_
                refine wq_gr (p' := 69) rfl rfl (congrArg Prod.fst (ly_k C15.1.1 26 rfl)) rfl (ly_g C15.1.1 26 4 27 rfl) ?_
                refine av_wp_seq 1 (pc' := 71) (lv' := [some (.inr (.inr (.inl (some (26))))), some (.inr (.inr (.inl (some (t))))), some (.inl m), some (.inr (.inr (.inl (some (r))))), some (.inl y), some (.inl k11), some (.inr (.inr (.inl (some (t32))))), a13]) (st' := [.inl y, .inr (.inr (.inl (some (27)))), .inr (.inr (.inl (some (r)))), .inr (.inr (.inl (some (t32)))), .inr (.inr (.inl (some (61))))]) (h' := h14) rfl ?_
                refine wq_cv (p' := 74) (av_qc (.invokevirtual 64) 1 4 0 0) 9 cd_1 [.inl y, .inr (.inr (.inl (some (27)))), .inr (.inr (.inl (some (r)))), .inr (.inr (.inl (some (t32))))] (61) 0 [some (.inr (.inr (.inl (some (61))))), some (.inr (.inr (.inl (some (t32))))), some (.inr (.inr (.inl (some (r))))), some (.inr (.inr (.inl (some (27))))), some (.inl y), none, none, none, none] rfl rfl rfl pp_1 rfl rfl rfl (congrArg Prod.fst (bn_k0 C15.1.1 (Or.inr (Or.inr rfl)))) rfl rfl rfl rfl ?_
                refine cx_1 C15.1 (Or.inr (Or.inr rfl)) y34 ((congrFun F16.1.2.2.1 r).trans kr) k2 (y) (by omega) (fun h49 a50 E51 Y52 T53 => ?_)
                have w54 : hA h14 r = ro := (FS_row F16 k2).trans hr
                rw [y35, w54] at E51
                rw [y35, w54, C15.2.2.1] at T53
                have C55 := CJ_y C15 Y52 (ib_ic E51.1)
                have F56 := FS_tr F16 (FS_y Y52)
                have T57 := TKR_of T53 (by omega) (SUJ_g X18.1 (by omega) N10 (by omega) (by rw [e39]; omega) (WF (Int.toNat k11) (by omega)).2.2.1)
                have G58 := CWF_sea (ro := ro) (WF (Int.toNat k11) (by omega)) r8 (brv_b (U (Int.toNat k11)) (srt U S ro (Int.toNat k11)))
                show av_wp _ cd_52 74 [some (.inr (.inr (.inl (some (26))))), some (.inr (.inr (.inl (some (t))))), some (.inl m), some (.inr (.inr (.inl (some (r))))), some (.inl y), some (.inl k11), some (.inr (.inr (.inl (some (t32))))), a13] [] h49 _
                refine av_wp_seq 1 (pc' := 76) (lv' := [some (.inr (.inr (.inl (some (26))))), some (.inr (.inr (.inl (some (t))))), some (.inl m), some (.inr (.inr (.inl (some (r))))), some (.inl y), some (.inl k11), some (.inr (.inr (.inl (some (t32))))), a13]) (st' := [.inr (.inr (.inl (some (t32))))]) (h' := h49) rfl ?_
                refine wq_gi (p' := 79) rfl rfl (congrArg Prod.fst (co_kt (ib_co E51.1))) rfl (co_cb (ib_co E51.1)) ?_
                refine av_wp_seq 1 (pc' := 80) (lv' := [some (.inr (.inr (.inl (some (26))))), some (.inr (.inr (.inl (some (t))))), some (.inl m), some (.inr (.inr (.inl (some (r))))), some (.inl y), some (.inl k11), some (.inr (.inr (.inl (some (t32))))), a13]) (st' := [.inl (-1), .inl (cbv (U (Int.toNat (k11))) (S (Int.toNat (k11))))]) (h' := h49) rfl ?_
                refine wq_k2 (p' := 83) rfl rfl ⟨by omega, by omega⟩ ⟨by omega, by omega⟩ (fun c59 => ?_) (fun c60 => ?_)
                · have c59 : (cbv (U (Int.toNat (k11))) (S (Int.toNat (k11)))) = (-1) := c59
                  refine av_wp_seq 3 (pc' := 103) (lv' := [some (.inr (.inr (.inl (some (26))))), some (.inr (.inr (.inl (some (t))))), some (.inl m), some (.inr (.inr (.inl (some (r))))), some (.inl y), some (.inl k11), some (.inr (.inr (.inl (some (t32))))), some (.inl (0))]) (st' := [.inr (.inr (.inl (some (26))))]) (h' := h49) rfl ?_
                  refine wq_gr (p' := 106) rfl rfl (congrArg Prod.fst (ly_k C55.1.1 26 rfl)) rfl (ly_g C55.1.1 26 4 27 rfl) ?_
                  refine av_wp_seq 6 (pc' := 121) (lv' := [some (.inr (.inr (.inl (some (26))))), some (.inr (.inr (.inl (some (t))))), some (.inl m), some (.inr (.inr (.inl (some (r))))), some (.inl y), some (.inl k11), some (.inr (.inr (.inl (some (t32))))), some (.inl (0))]) (st' := [.inl (1), .inl (y + k11), .inr (.inr (.inl (some (27))))]) (h' := h49) rfl ?_
                  refine xj_27 (p' := 122) rfl rfl C55 (FJ_rf h49) (by omega) (fun h61 C62 F63 => ?_)
                  have F64 := FS_tr F56 (FS_j F63)
                  refine av_wp_seq 2 (pc' := 13) (lv' := [some (.inr (.inr (.inl (some (26))))), some (.inr (.inr (.inl (some (t))))), some (.inl m), some (.inr (.inr (.inl (some (r))))), some (.inl y), some (.inl (k11 + (1))), some (.inr (.inr (.inl (some (t32))))), some (.inl (0))]) (st' := []) (h' := h61) rfl ?_
                  exact I21 _ (by omega) ((k11 + (1))) (some (.inr (.inr (.inl (some (t32)))))) (some (.inl (0))) h61 (av_u1 r17 (Int.toNat ((y + k11))) (1)) rfl rfl (by omega) (by omega) C62 F64 ⟨by rw [show Int.toNat (k11 + (1)) = Int.toNat k11 + 1 by omega]; exact SUJ_s X18.1 (by omega) (sre_1 (CB1 (Int.toNat k11) (by omega)) (by omega)), fun q hq => by rw [u1_ne (by omega)]; exact X18.2 q hq⟩ rfl
                · have c60 : (cbv (U (Int.toNat (k11))) (S (Int.toNat (k11)))) ≠ (-1) := c60
                  refine av_wp_seq 1 (pc' := 84) (lv' := [some (.inr (.inr (.inl (some (26))))), some (.inr (.inr (.inl (some (t))))), some (.inl m), some (.inr (.inr (.inl (some (r))))), some (.inl y), some (.inl k11), some (.inr (.inr (.inl (some (t32))))), a13]) (st' := [.inr (.inr (.inl (some (26))))]) (h' := h49) rfl ?_
                  refine wq_gr (p' := 87) rfl rfl (congrArg Prod.fst (ly_k C55.1.1 26 rfl)) rfl (ly_g C55.1.1 26 3 61 rfl) ?_
                  refine av_wp_seq 1 (pc' := 88) (lv' := [some (.inr (.inr (.inl (some (26))))), some (.inr (.inr (.inl (some (t))))), some (.inl m), some (.inr (.inr (.inl (some (r))))), some (.inl y), some (.inl k11), some (.inr (.inr (.inl (some (t32))))), a13]) (st' := [.inl (0), .inr (.inr (.inl (some (61))))]) (h' := h49) rfl ?_
                  refine wq_cs (p' := 91) (av_qc (.invokestatic 108) 55 2 2 3) 4 cd_55 [.inr (.inr (.inl (some (61)))), .inl (0)] [.inl (0), .inr (.inr (.inl (some (61))))] [some (.inr (.inr (.inl (some (61))))), some (.inl (0)), none, none] rfl rfl rfl pp_55 (fun _ => rfl) rfl rfl ?_
                  refine cx_55 E51 (FN_rf 61 h49) G58 T57 (fun q hq => Or.inl (T53.1 q hq)) ((0)) (by omega) (fun v65 h66 a67 m68 m69 m70 E71 F72 Z73 T74 p75 => ?_)
                  have C76 := CJ_n C55 F72 (ib_ic E71.1)
                  have F77 := FS_tr F56 (FS_n F72)
                  have g78 : -1 ≤ v65 ∧ v65 ≤ 1023 := by have zz := (cbv_b (s := S (Int.toNat k11)) (f := U (Int.toNat k11)) (fun q hq p h1 h2 => by have w := CB16 (Int.toNat k11) q (p - 15) (by omega) (by omega); rw [show 21 * q + 15 + (p - 15) = 21 * q + p by omega] at w; exact w)); rcases p75 with z | z <;> omega
                  show av_wp _ cd_52 91 [some (.inr (.inr (.inl (some (26))))), some (.inr (.inr (.inl (some (t))))), some (.inl m), some (.inr (.inr (.inl (some (r))))), some (.inl y), some (.inl k11), some (.inr (.inr (.inl (some (t32))))), a13] [.inl v65] h66 _
                  refine av_wp_seq 1 (pc' := 92) (lv' := [some (.inr (.inr (.inl (some (26))))), some (.inr (.inr (.inl (some (t))))), some (.inl m), some (.inr (.inr (.inl (some (r))))), some (.inl y), some (.inl k11), some (.inr (.inr (.inl (some (t32))))), a13]) (st' := [.inl (-1), .inl v65]) (h' := h66) rfl ?_
                  refine wq_k2 (p' := 95) rfl rfl ⟨by omega, by omega⟩ ⟨by omega, by omega⟩ (fun c79 => ?_) (fun c80 => ?_)
                  · have c79 : v65 ≠ (-1) := c79
                    refine av_wp_seq 3 (pc' := 103) (lv' := [some (.inr (.inr (.inl (some (26))))), some (.inr (.inr (.inl (some (t))))), some (.inl m), some (.inr (.inr (.inl (some (r))))), some (.inl y), some (.inl k11), some (.inr (.inr (.inl (some (t32))))), some (.inl (0))]) (st' := [.inr (.inr (.inl (some (26))))]) (h' := h66) rfl ?_
                    refine wq_gr (p' := 106) rfl rfl (congrArg Prod.fst (ly_k C76.1.1 26 rfl)) rfl (ly_g C76.1.1 26 4 27 rfl) ?_
                    refine av_wp_seq 6 (pc' := 121) (lv' := [some (.inr (.inr (.inl (some (26))))), some (.inr (.inr (.inl (some (t))))), some (.inl m), some (.inr (.inr (.inl (some (r))))), some (.inl y), some (.inl k11), some (.inr (.inr (.inl (some (t32))))), some (.inl (0))]) (st' := [.inl (1), .inl (y + k11), .inr (.inr (.inl (some (27))))]) (h' := h66) rfl ?_
                    refine xj_27 (p' := 122) rfl rfl C76 (FJ_rf h66) (by omega) (fun h81 C82 F83 => ?_)
                    have F84 := FS_tr F77 (FS_j F83)
                    refine av_wp_seq 2 (pc' := 13) (lv' := [some (.inr (.inr (.inl (some (26))))), some (.inr (.inr (.inl (some (t))))), some (.inl m), some (.inr (.inr (.inl (some (r))))), some (.inl y), some (.inl (k11 + (1))), some (.inr (.inr (.inl (some (t32))))), some (.inl (0))]) (st' := []) (h' := h81) rfl ?_
                    exact I21 _ (by omega) ((k11 + (1))) (some (.inr (.inr (.inl (some (t32)))))) (some (.inl (0))) h81 (av_u1 r17 (Int.toNat ((y + k11))) (1)) rfl rfl (by omega) (by omega) C82 F84 ⟨by rw [show Int.toNat (k11 + (1)) = Int.toNat k11 + 1 by omega]; exact SUJ_s X18.1 (by omega) (by have zz := sre_2 (by omega) p75; exact zz.2 (by omega)), fun q hq => by rw [u1_ne (by omega)]; exact X18.2 q hq⟩ rfl
                  · have c80 : v65 = (-1) := c80
                    refine av_wp_seq 4 (pc' := 103) (lv' := [some (.inr (.inr (.inl (some (26))))), some (.inr (.inr (.inl (some (t))))), some (.inl m), some (.inr (.inr (.inl (some (r))))), some (.inl y), some (.inl k11), some (.inr (.inr (.inl (some (t32))))), some (.inl (1))]) (st' := [.inr (.inr (.inl (some (26))))]) (h' := h66) rfl ?_
                    refine wq_gr (p' := 106) rfl rfl (congrArg Prod.fst (ly_k C76.1.1 26 rfl)) rfl (ly_g C76.1.1 26 4 27 rfl) ?_
                    refine av_wp_seq 7 (pc' := 121) (lv' := [some (.inr (.inr (.inl (some (26))))), some (.inr (.inr (.inl (some (t))))), some (.inl m), some (.inr (.inr (.inl (some (r))))), some (.inl y), some (.inl k11), some (.inr (.inr (.inl (some (t32))))), some (.inl (1))]) (st' := [.inl (2), .inl (y + k11), .inr (.inr (.inl (some (27))))]) (h' := h66) rfl ?_
                    refine xj_27 (p' := 122) rfl rfl C76 (FJ_rf h66) (by omega) (fun h85 C86 F87 => ?_)
                    have F88 := FS_tr F77 (FS_j F87)
                    refine av_wp_seq 2 (pc' := 13) (lv' := [some (.inr (.inr (.inl (some (26))))), some (.inr (.inr (.inl (some (t))))), some (.inl m), some (.inr (.inr (.inl (some (r))))), some (.inl y), some (.inl (k11 + (1))), some (.inr (.inr (.inl (some (t32))))), some (.inl (1))]) (st' := []) (h' := h85) rfl ?_
                    exact I21 _ (by omega) ((k11 + (1))) (some (.inr (.inr (.inl (some (t32)))))) (some (.inl (1))) h85 (av_u1 r17 (Int.toNat ((y + k11))) (2)) rfl rfl (by omega) (by omega) C86 F88 ⟨by rw [show Int.toNat (k11 + (1)) = Int.toNat k11 + 1 by omega]; exact SUJ_s X18.1 (by omega) (by have zz := sre_2 (by omega) p75; exact zz.1 (by omega)), fun q hq => by rw [u1_ne (by omega)]; exact X18.2 q hq⟩ rfl
    exact L20 _ ((0)) (none) (none) h2 sr rfl rfl (by omega) (by omega) C4 F7 ⟨SUJ_0 SU, fun q _ => rfl⟩ rfl
  · have c9 : v1 = (0) := c9
    refine av_wp_ret (v := none) rfl rfl rfl ?_
    exact hq h2 _ _ C4 F7 SU (fun q _ => rfl) (fun g ⟨k, k1, k2, k3⟩ => p6.elim (fun z => by exfalso; have := z.2 k k1; omega) (fun z => by exfalso; omega))

