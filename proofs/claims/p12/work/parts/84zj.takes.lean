/-! THE REFERENCE TAKES A CASE, exactly -/
set_option maxRecDepth 100000 in
set_option maxHeartbeats 4000000 in
theorem cx_185 {g h : av_H} {n a m : Int} (I : IMF n a m h) (F : FM g h) (x : Int) (qx : 0 ≤ x ∧ x ≤ 15) (qg : x < hA g 78 0) {U : Nat → Nat → Int} {S : Nat → Nat} {ro : Nat → Int} (RC : ∀ c : Nat, c ≤ Int.toNat x → RCA (hA g) U S c) (WC : ∀ c : Nat, c ≤ Int.toNat x → RWF (U c) ro (S c)) (WG : ∀ c : Nat, c ≤ Int.toNat x → ∀ k, k < S c → -1 ≤ U c (21 * k + 6) ∧ U c (21 * k + 6) < (c : Int)) (RO : ∀ j, j < 13 → hA h 95 j = ro j) {Q : Option av_V → av_H → Prop} (hq : ∀ n' a' m' h', n' = (S (Int.toNat x) : Int) → m' = cbf (U (Int.toNat x)) (S (Int.toNat x)) → RBA (U (Int.toNat x)) ro (brv (U (Int.toNat x)) (srt U S ro (Int.toNat x))) (S (Int.toNat x)) h' → ZE [96, 97, 98, 99, 100, 101, 102, 103, 104, 105, 106, 107, 108, 109, 110, 111, 112, 113, 114, 115, 116, 117] [27, 28, 29, 50, 51, 52, 53] h h' → IMF n' a' m' h' → FM g h' → Q none h') : av_wp none cd_185 0 [some (.inr (.inr (.inl (some (77))))), some (.inl x), none, none] [] h Q := by
  have gn := im_n I.1.1
  rw [I.2.1] at gn
  have ga := im_a I.1.1
  rw [I.2.2.1] at ga
  have gm := im_cm I.1.1
  rw [I.2.2.2] at gm
  have Z := ZE_rf (L := [96, 97, 98, 99, 100, 101, 102, 103, 104, 105, 106, 107, 108, 109, 110, 111, 112, 113, 114, 115, 116, 117]) (K := [27, 28, 29, 50, 51, 52, 53]) h
  refine av_wp_seq 2 (pc' := 2) (lv' := [some (.inr (.inr (.inl (some (77))))), some (.inl x), some (.inl (0)), none]) (st' := []) (h' := h) rfl ?_
  have L12 : ∀ (m11 : Nat) (k1 : Int) (n5 : Int) (a6 : Int) (m7 : Int) (h2 : av_H), (0 ≤ k1 ∧ k1 ≤ 16) → (0 ≤ n5 ∧ n5 ≤ 12) ∧ (0 ≤ a6 ∧ a6 ≤ 48) ∧ (0 ≤ m7 ∧ m7 ≤ 1025) → IMF n5 a6 m7 h2 → FM g h2 → ZE [96, 97, 98, 99, 100, 101, 102, 103, 104, 105, 106, 107, 108, 109, 110, 111, 112, 113, 114, 115, 116, 117] [27, 28, 29, 50, 51, 52, 53] h h2 → FI 16 (fun j => if j = (Int.toNat x) then 1 else 0) (hA h 117) k1 (hA h2 117) → (16 - k1).toNat = m11 → av_wp none cd_185 2 [some (.inr (.inr (.inl (some (77))))), some (.inl x), some (.inl k1), none] [] h2 Q := by
    intro m11
    induction m11 using Nat.strongRecOn with
    | _ m11 I13 =>
      intro k1 n5 a6 m7 h2 g15 g8 I3 F4 Z9 X10 e14
      refine av_wp_seq 2 (pc' := 5) (lv' := [some (.inr (.inr (.inl (some (77))))), some (.inl x), some (.inl k1), none]) (st' := [.inl (16), .inl k1]) (h' := h2) rfl ?_
      refine wq_k2 (p' := 8) rfl rfl ⟨by omega, by omega⟩ ⟨by omega, by omega⟩ (fun c16 => ?_) (fun c17 => ?_)
      · have c16 : (16) ≤ k1 := c16
        refine av_wp_seq 2 (pc' := 32) (lv' := [some (.inr (.inr (.inl (some (77))))), some (.inl x), some (.inl x), none]) (st' := []) (h' := h2) rfl ?_
        have L30 : ∀ (m29 : Nat) (k18 : Int) (a19 : Option av_V) (n23 : Int) (a24 : Int) (m25 : Int) (h20 : av_H), av_lg a19 = false → k18 ≤ x → (-1 ≤ k18 ∧ k18 ≤ 15) → (0 ≤ n23 ∧ n23 ≤ 12) ∧ (0 ≤ a24 ∧ a24 ≤ 48) ∧ (0 ≤ m25 ∧ m25 ≤ 1025) → IMF n23 a24 m25 h20 → FM g h20 → ZE [96, 97, 98, 99, 100, 101, 102, 103, 104, 105, 106, 107, 108, 109, 110, 111, 112, 113, 114, 115, 116, 117] [27, 28, 29, 50, 51, 52, 53] h h20 → NDR U S (Int.toNat x) k18 (hA h20 117) → (k18 + 1).toNat = m29 → av_wp none cd_185 32 [some (.inr (.inr (.inl (some (77))))), some (.inl x), some (.inl k18), a19] [] h20 Q := by
          intro m29
          induction m29 using Nat.strongRecOn with
          | _ m29 I31 =>
            intro k18 a19 n23 a24 m25 h20 g33 g34 g35 g26 I21 F22 Z27 X28 e32
            have la19 := g33
            refine av_wp_seq 1 (pc' := 33) (lv' := [some (.inr (.inr (.inl (some (77))))), some (.inl x), some (.inl k18), a19]) (st' := [.inl k18]) (h' := h20) rfl ?_
            refine wq_k1 (p' := 36) rfl rfl ⟨by omega, by omega⟩ (fun c36 => ?_) (fun c37 => ?_)
            · have c36 : k18 < (0) := c36
              refine av_wp_seq 2 (pc' := 102) (lv' := [some (.inr (.inr (.inl (some (77))))), some (.inl x), some (.inl (0)), a19]) (st' := []) (h' := h20) rfl ?_
              have L50 : ∀ (m49 : Nat) (k38 : Int) (n42 : Int) (a43 : Int) (m44 : Int) (h39 : av_H), k38 ≤ x → (0 ≤ k38 ∧ k38 ≤ 15) → (0 ≤ n42 ∧ n42 ≤ 12) ∧ (0 ≤ a43 ∧ a43 ≤ 48) ∧ (0 ≤ m44 ∧ m44 ≤ 1025) → IMF n42 a43 m44 h39 → FM g h39 → ZE [96, 97, 98, 99, 100, 101, 102, 103, 104, 105, 106, 107, 108, 109, 110, 111, 112, 113, 114, 115, 116, 117] [27, 28, 29, 50, 51, 52, 53] h h39 → SRR U S ro (hA h20 117) (Int.toNat (k38)) (hA h39 116) → hA h39 117 = (hA h20 117) → (15 - k38).toNat = m49 → av_wp none cd_185 102 [some (.inr (.inr (.inl (some (77))))), some (.inl x), some (.inl k38), a19] [] h39 Q := by
                intro m49
                induction m49 using Nat.strongRecOn with
                | _ m49 I51 =>
                  intro k38 n42 a43 m44 h39 g53 g54 g45 I40 F41 Z46 X47 X48 e52
                  refine av_wp_seq 2 (pc' := 104) (lv' := [some (.inr (.inr (.inl (some (77))))), some (.inl x), some (.inl k38), a19]) (st' := [.inl x, .inl k38]) (h' := h39) rfl ?_
                  refine wq_k2 (p' := 107) rfl rfl ⟨by omega, by omega⟩ ⟨by omega, by omega⟩ (fun c55 => ?_) (fun c56 => ?_)
                  · have c55 : x ≤ k38 := c55
                    refine av_wp_seq 2 (pc' := 142) (lv' := [some (.inr (.inr (.inl (some (77))))), some (.inl x), some (.inl k38), a19]) (st' := [.inl x, .inr (.inr (.inl (some (77))))]) (h' := h39) rfl ?_
                    refine wq_cv (p' := 145) (av_qc (.invokevirtual 434) 162 1 0 8) 5 cd_162 [.inl x] (77) 8 [some (.inr (.inr (.inl (some (77))))), some (.inl x), none, none, none] rfl rfl rfl pp_162 rfl rfl rfl (congrArg Prod.fst (ly_k I40.1.1.1 77 rfl)) rfl rfl rfl rfl ?_
                    have X73 : SRR U S ro (hA h20 117) (Int.toNat (x)) (hA h39 116) := by rw [show (Int.toNat (x)) = Int.toNat (k38) by omega]; exact X47
                    have R57 := RCA_f (RC (Int.toNat (x)) (by omega)) F41
                    have N58 := X28.2.2 (Int.toNat (x)) (by omega) (by omega) X28.2.1
                    refine cx_162 I40.1 (x) (by have z1 := congrFun (F41.2.2.2.2.2.2 78 rfl) 0; omega) (fun i hi => SRR_b (nd := (hA h20 117)) R57 (by have := R57.1; omega) (WG (Int.toNat (x)) (by omega) i (by have := R57.1; omega)).2 (by omega) N58 X73) (fun n59 h60 i61 e62 b63 F64 B65 Z66 => ?_)
                    have e70 : n59 = (S (Int.toNat (x)) : Int) := b63.1.symm.trans R57.1
                    have B69 : RBB (U (Int.toNat (x))) ro (brv (U (Int.toNat (x))) (srt U S ro (Int.toNat (x)))) (S (Int.toNat (x))) h60 := RBB_of R57 b63.1 b63.2 (fun k hk => (B65 k (by omega)).trans (bbr_b (nd := (hA h20 117)) (x := 0) R57 hk (WG (Int.toNat (x)) (by omega) k hk).2 (by omega) N58 X73)) (fun j hj => (congrFun (Z66.1 95 rfl) j).trans ((congrFun (Z46.1 95 rfl) j).trans (RO j hj)))
                    have F67 := FM_tr F41 F64
                    have Z68 := ZE_tr Z46 (ZE_up Z66 rfl rfl)
                    have I74 : IMF n59 (hF h60 77 28) (hF h60 77 29) h60 := ⟨i61, e62, rfl, rfl⟩
                    generalize hF h60 77 28 = a71 at I74
                    generalize hF h60 77 29 = m72 at I74
                    have g75 := im_n I74.1.1
                    rw [I74.2.1] at g75
                    have g76 := im_a I74.1.1
                    rw [I74.2.2.1] at g76
                    have g77 := im_cm I74.1.1
                    rw [I74.2.2.2] at g77
                    show av_wp _ cd_185 145 [some (.inr (.inr (.inl (some (77))))), some (.inl x), some (.inl k38), a19] [] h60 _
                    refine av_wp_seq 1 (pc' := 146) (lv' := [some (.inr (.inr (.inl (some (77))))), some (.inl x), some (.inl k38), a19]) (st' := [.inr (.inr (.inl (some (77))))]) (h' := h60) rfl ?_
                    refine wq_cv (p' := 149) (av_qc (.invokevirtual 424) 163 0 0 8) 4 cd_163 [] (77) 8 [some (.inr (.inr (.inl (some (77))))), none, none, none] rfl rfl rfl pp_163 rfl rfl rfl (congrArg Prod.fst (ly_k I74.1.1.1 77 rfl)) rfl rfl rfl rfl ?_
                    refine cy_163 I74.1 I74.2.1 F67 e70 B69 (fun a78 m79 h80 z81 A82 Z83 I84 F85 => ?_)
                    have z81a := z81.1
                    have z81b := z81.2
                    have g87 := im_a I84.1.1
                    rw [I84.2.2.1] at g87
                    have g88 := im_cm I84.1.1
                    rw [I84.2.2.2] at g88
                    have Z86 := ZE_tr Z68 (ZE_up Z83 rfl rfl)
                    show av_wp _ cd_185 149 [some (.inr (.inr (.inl (some (77))))), some (.inl x), some (.inl k38), a19] [] h80 _
                    refine av_wp_ret (v := none) rfl rfl rfl ?_
                    exact hq _ _ _ h80 e70 z81b A82 Z86 I84 F85
                  · have c56 : k38 < x := c56
                    refine av_wp_seq 1 (pc' := 108) (lv' := [some (.inr (.inr (.inl (some (77))))), some (.inl x), some (.inl k38), a19]) (st' := [.inr (.inr (.inl (some (77))))]) (h' := h39) rfl ?_
                    refine wq_gr (p' := 111) rfl rfl (congrArg Prod.fst (ly_k I40.1.1.1 77 rfl)) rfl (ly_g I40.1.1.1 77 55 117 rfl) ?_
                    refine av_wp_seq 1 (pc' := 112) (lv' := [some (.inr (.inr (.inl (some (77))))), some (.inl x), some (.inl k38), a19]) (st' := [.inl k38, .inr (.inr (.inl (some (117))))]) (h' := h39) rfl ?_
                    obtain ⟨v89, e90⟩ : ∃ v, hA h39 117 (Int.toNat (k38)) = v := ⟨_, rfl⟩
                    have y92 : (hA h20 117) (Int.toNat (k38)) = v89 := (congrFun X48 _).symm.trans e90
                    have g93 := X28.1 (Int.toNat (k38)) (by omega)
                    rw [y92] at g93
                    refine wq_bl (p' := 113) (n := 16) rfl rfl ((Or.inr (ly_k I40.1.1.1 117 rfl))) (by omega) (e90) ?_
                    refine wq_k1 (p' := 116) rfl rfl ⟨by omega, by omega⟩ (fun c94 => ?_) (fun c95 => ?_)
                    · have c94 : v89 ≠ (0) := c94
                      refine av_wp_seq 2 (pc' := 121) (lv' := [some (.inr (.inr (.inl (some (77))))), some (.inl x), some (.inl k38), a19]) (st' := [.inl k38, .inr (.inr (.inl (some (77))))]) (h' := h39) rfl ?_
                      refine wq_cv (p' := 124) (av_qc (.invokevirtual 434) 162 1 0 8) 5 cd_162 [.inl k38] (77) 8 [some (.inr (.inr (.inl (some (77))))), some (.inl k38), none, none, none] rfl rfl rfl pp_162 rfl rfl rfl (congrArg Prod.fst (ly_k I40.1.1.1 77 rfl)) rfl rfl rfl rfl ?_
                      have R96 := RCA_f (RC (Int.toNat (k38)) (by omega)) F41
                      have N97 := X28.2.2 (Int.toNat (k38)) (by omega) (by omega) (y92.trans (by omega))
                      refine cx_162 I40.1 (k38) (by have z1 := congrFun (F41.2.2.2.2.2.2 78 rfl) 0; omega) (fun i hi => SRR_b (nd := (hA h20 117)) R96 (by have := R96.1; omega) (WG (Int.toNat (k38)) (by omega) i (by have := R96.1; omega)).2 (by omega) N97 X47) (fun n98 h99 i100 e101 b102 F103 B104 Z105 => ?_)
                      have e109 : n98 = (S (Int.toNat (k38)) : Int) := b102.1.symm.trans R96.1
                      have B108 : RBB (U (Int.toNat (k38))) ro (brv (U (Int.toNat (k38))) (srt U S ro (Int.toNat (k38)))) (S (Int.toNat (k38))) h99 := RBB_of R96 b102.1 b102.2 (fun k hk => (B104 k (by omega)).trans (bbr_b (nd := (hA h20 117)) (x := 0) R96 hk (WG (Int.toNat (k38)) (by omega) k hk).2 (by omega) N97 X47)) (fun j hj => (congrFun (Z105.1 95 rfl) j).trans ((congrFun (Z46.1 95 rfl) j).trans (RO j hj)))
                      have F106 := FM_tr F41 F103
                      have Z107 := ZE_tr Z46 (ZE_up Z105 rfl rfl)
                      have I112 : IMF n98 (hF h99 77 28) (hF h99 77 29) h99 := ⟨i100, e101, rfl, rfl⟩
                      generalize hF h99 77 28 = a110 at I112
                      generalize hF h99 77 29 = m111 at I112
                      have g113 := im_n I112.1.1
                      rw [I112.2.1] at g113
                      have g114 := im_a I112.1.1
                      rw [I112.2.2.1] at g114
                      have g115 := im_cm I112.1.1
                      rw [I112.2.2.2] at g115
                      show av_wp _ cd_185 124 [some (.inr (.inr (.inl (some (77))))), some (.inl x), some (.inl k38), a19] [] h99 _
                      refine av_wp_seq 1 (pc' := 125) (lv' := [some (.inr (.inr (.inl (some (77))))), some (.inl x), some (.inl k38), a19]) (st' := [.inr (.inr (.inl (some (77))))]) (h' := h99) rfl ?_
                      refine wq_gr (p' := 128) rfl rfl (congrArg Prod.fst (ly_k I112.1.1.1 77 rfl)) rfl (ly_g I112.1.1.1 77 54 116 rfl) ?_
                      refine av_wp_seq 2 (pc' := 130) (lv' := [some (.inr (.inr (.inl (some (77))))), some (.inl x), some (.inl k38), a19]) (st' := [.inr (.inr (.inl (some (77)))), .inl k38, .inr (.inr (.inl (some (116))))]) (h' := h99) rfl ?_
                      refine wq_cv (p' := 133) (av_qc (.invokevirtual 437) 184 0 0 8) 2 cd_184 [] (77) 8 [some (.inr (.inr (.inl (some (77))))), none] rfl rfl rfl pp_184 rfl rfl rfl (congrArg Prod.fst (ly_k I112.1.1.1 77 rfl)) rfl rfl rfl rfl ?_
                      refine cx_184 I112 F106 e109 B108 (WC (Int.toNat (k38)) (by omega)) (fun v116 a117 m118 h119 I120 F121 Z122 A123 p124 => ?_)
                      have Z125 := ZE_tr Z107 (ZE_up Z122 rfl rfl)
                      have k126 := (Z122.1 116 rfl).trans (Z105.1 116 rfl)
                      have k127 := (Z122.1 117 rfl).trans (Z105.1 117 rfl)
                      have g128 := im_a I120.1.1
                      rw [I120.2.2.1] at g128
                      have g129 := im_cm I120.1.1
                      rw [I120.2.2.2] at g129
                      show av_wp _ cd_185 133 [some (.inr (.inr (.inl (some (77))))), some (.inl x), some (.inl k38), a19] [.inl v116, .inl k38, .inr (.inr (.inl (some (116))))] h119 _
                      refine xm_zs (p' := 134) (l := 16) rfl rfl I120 F121 (ly_k I120.1.1.1 116 rfl) (by omega) (by omega) (by omega) (fun h130 I131 F132 e133 => ?_)
                      have Z134 := ZE_a Z125 e133 rfl
                      refine av_wp_seq 2 (pc' := 102) (lv' := [some (.inr (.inr (.inl (some (77))))), some (.inl x), some (.inl (k38 + (1))), a19]) (st' := []) (h' := h130) rfl ?_
                      exact I51 _ (by omega) ((k38 + (1))) (n98) (a117) (m118) h130 (by omega) (by omega) (by omega) I131 F132 Z134 (by rw [show Int.toNat ((k38 + (1))) = Int.toNat (k38) + 1 by omega, hA_eu e133, k126]; exact SRR_s X47 (sre_v p124)) ((hA_en e133 (by decide)).trans (k127.trans X48)) rfl
                    · have c95 : v89 = (0) := c95
                      refine av_wp_seq 3 (pc' := 102) (lv' := [some (.inr (.inr (.inl (some (77))))), some (.inl x), some (.inl (k38 + (1))), a19]) (st' := []) (h' := h39) rfl ?_
                      exact I51 _ (by omega) ((k38 + (1))) (n42) (a43) (m44) h39 (by omega) (by omega) (by omega) I40 F41 Z46 (by rw [show Int.toNat ((k38 + (1))) = Int.toNat (k38) + 1 by omega]; exact SRR_n X47 (y92.trans (by omega))) X48 rfl
              exact L50 _ ((0)) (n23) (a24) (m25) h20 (by omega) (by omega) (by omega) I21 F22 Z27 SRR_0 rfl rfl
            · have c37 : (0) ≤ k18 := c37
              refine av_wp_seq 2 (pc' := 38) (lv' := [some (.inr (.inr (.inl (some (77))))), some (.inl x), some (.inl k18), some (.inl (0))]) (st' := []) (h' := h20) rfl ?_
              have L146 : ∀ (m145 : Nat) (k135 : Int) (n139 : Int) (a140 : Int) (m141 : Int) (h136 : av_H), k135 ≤ (S (Int.toNat (k18)) : Int) → (0 ≤ k135 ∧ k135 ≤ 12) → (0 ≤ n139 ∧ n139 ≤ 12) ∧ (0 ≤ a140 ∧ a140 ≤ 48) ∧ (0 ≤ m141 ∧ m141 ≤ 1025) → IMF n139 a140 m141 h136 → FM g h136 → ZE [96, 97, 98, 99, 100, 101, 102, 103, 104, 105, 106, 107, 108, 109, 110, 111, 112, 113, 114, 115, 116, 117] [27, 28, 29, 50, 51, 52, 53] h h136 → MGI (U (Int.toNat (k18))) (hA h20 117) (Int.toNat (k135)) (hA h136 117) → (12 - k135).toNat = m145 → av_wp none cd_185 38 [some (.inr (.inr (.inl (some (77))))), some (.inl x), some (.inl k18), some (.inl k135)] [] h136 Q := by
                intro m145
                induction m145 using Nat.strongRecOn with
                | _ m145 I147 =>
                  intro k135 n139 a140 m141 h136 g149 g150 g142 I137 F138 Z143 X144 e148
                  refine av_wp_seq 2 (pc' := 40) (lv' := [some (.inr (.inr (.inl (some (77))))), some (.inl x), some (.inl k18), some (.inl k135)]) (st' := [.inr (.inr (.inl (some (77)))), .inl k135]) (h' := h136) rfl ?_
                  refine wq_gr (p' := 43) rfl rfl (congrArg Prod.fst (ly_k I137.1.1.1 77 rfl)) rfl (ly_g I137.1.1.1 77 3 81 rfl) ?_
                  refine av_wp_seq 1 (pc' := 44) (lv' := [some (.inr (.inr (.inl (some (77))))), some (.inl x), some (.inl k18), some (.inl k135)]) (st' := [.inl k18, .inr (.inr (.inl (some (81)))), .inl k135]) (h' := h136) rfl ?_
                  obtain ⟨v151, e152⟩ : ∃ v, hA h136 81 (Int.toNat (k18)) = v := ⟨_, rfl⟩
                  have g153 := im_many I137.1.1 (Int.toNat (k18))
                  rw [e152] at g153
                  have y154 : v151 = (S (Int.toNat (k18)) : Int) := e152.symm.trans ((congrFun (F138.2.2.2.2.2.2 81 rfl) _).trans (RC (Int.toNat (k18)) (by omega)).1)
                  refine wq_al (p' := 45) (n := 80) rfl rfl (ly_k I137.1.1.1 81 rfl) (by omega) (e152) ?_
                  refine wq_k2 (p' := 48) rfl rfl ⟨by omega, by omega⟩ ⟨by omega, by omega⟩ (fun c156 => ?_) (fun c157 => ?_)
                  · have c156 : v151 ≤ k135 := c156
                    refine av_wp_seq 2 (pc' := 32) (lv' := [some (.inr (.inr (.inl (some (77))))), some (.inl x), some (.inl (k18 + (-1))), some (.inl k135)]) (st' := []) (h' := h136) rfl ?_
                    exact I31 _ (by omega) ((k18 + (-1))) (some (.inl k135)) (n139) (a140) (m141) h136 rfl (by omega) (by omega) (by omega) I137 F138 Z143 (show NDR U S (Int.toNat x) (k18 - 1) _ from NDR_s X28 (by omega) (by omega) (fun q hq => by have := (WG (Int.toNat (k18)) (by omega) q hq).2; omega) X144 (k := (Int.toNat (k135))) (by omega) (Or.inl (by omega))) rfl
                  · have c157 : k135 < v151 := c157
                    refine av_wp_seq 1 (pc' := 49) (lv' := [some (.inr (.inr (.inl (some (77))))), some (.inl x), some (.inl k18), some (.inl k135)]) (st' := [.inr (.inr (.inl (some (77))))]) (h' := h136) rfl ?_
                    refine wq_gr (p' := 52) rfl rfl (congrArg Prod.fst (ly_k I137.1.1.1 77 rfl)) rfl (ly_g I137.1.1.1 77 55 117 rfl) ?_
                    refine av_wp_seq 1 (pc' := 53) (lv' := [some (.inr (.inr (.inl (some (77))))), some (.inl x), some (.inl k18), some (.inl k135)]) (st' := [.inl k18, .inr (.inr (.inl (some (117))))]) (h' := h136) rfl ?_
                    obtain ⟨v158, e159⟩ : ∃ v, hA h136 117 (Int.toNat (k18)) = v := ⟨_, rfl⟩
                    have g162 := X144.2 (Int.toNat (k18)) (by omega)
                    rw [e159] at g162
                    refine wq_bl (p' := 54) (n := 16) rfl rfl ((Or.inr (ly_k I137.1.1.1 117 rfl))) (by omega) (e159) ?_
                    refine wq_k1 (p' := 57) rfl rfl ⟨by omega, by omega⟩ (fun c163 => ?_) (fun c164 => ?_)
                    · have c163 : v158 = (0) := c163
                      refine av_wp_seq 2 (pc' := 32) (lv' := [some (.inr (.inr (.inl (some (77))))), some (.inl x), some (.inl (k18 + (-1))), some (.inl k135)]) (st' := []) (h' := h136) rfl ?_
                      exact I31 _ (by omega) ((k18 + (-1))) (some (.inl k135)) (n139) (a140) (m141) h136 rfl (by omega) (by omega) (by omega) I137 F138 Z143 (show NDR U S (Int.toNat x) (k18 - 1) _ from NDR_s X28 (by omega) (by omega) (fun q hq => by have := (WG (Int.toNat (k18)) (by omega) q hq).2; omega) X144 (k := (Int.toNat (k135))) (by omega) (Or.inr (e159.trans (by omega)))) rfl
                    · have c164 : v158 ≠ (0) := c164
                      refine av_wp_seq 1 (pc' := 58) (lv' := [some (.inr (.inr (.inl (some (77))))), some (.inl x), some (.inl k18), some (.inl k135)]) (st' := [.inr (.inr (.inl (some (77))))]) (h' := h136) rfl ?_
                      refine wq_gr (p' := 61) rfl rfl (congrArg Prod.fst (ly_k I137.1.1.1 77 rfl)) rfl (ly_g I137.1.1.1 77 10 88 rfl) ?_
                      refine av_wp_seq 5 (pc' := 67) (lv' := [some (.inr (.inr (.inl (some (77))))), some (.inl x), some (.inl k18), some (.inl k135)]) (st' := [.inl (((12) * k18) + k135), .inr (.inr (.inl (some (88))))]) (h' := h136) rfl ?_
                      obtain ⟨v165, e166⟩ : ∃ v, hA h136 88 (Int.toNat ((((12) * k18) + k135))) = v := ⟨_, rfl⟩
                      have g167 : -1 ≤ hA h136 88 (Int.toNat ((((12) * k18) + k135))) ∧ hA h136 88 (Int.toNat ((((12) * k18) + k135))) ≤ 15 := im_m I137.1.1 88 (by decide) (by decide) _
                      rw [e166] at g167
                      have y168 : U (Int.toNat (k18)) (21 * (Int.toNat (k135)) + 6) = v165 := ((RC (Int.toNat (k18)) (by omega)).2.1 (Int.toNat (k135)) (by omega)).1.2.2.2.2.2.2.symm.trans ((congrArg (hA g 88) (by omega)).trans ((congrFun (F138.2.2.2.2.2.2 88 rfl) _).symm.trans e166))
                      refine wq_al (p' := 68) (n := 960) rfl rfl (ly_k I137.1.1.1 88 rfl) (by omega) (e166) ?_
                      refine wq_k1 (p' := 71) rfl rfl ⟨by omega, by omega⟩ (fun c170 => ?_) (fun c171 => ?_)
                      · have c170 : v165 < (0) := c170
                        refine av_wp_seq 2 (pc' := 38) (lv' := [some (.inr (.inr (.inl (some (77))))), some (.inl x), some (.inl k18), some (.inl (k135 + (1)))]) (st' := []) (h' := h136) rfl ?_
                        exact I147 _ (by omega) ((k135 + (1))) (n139) (a140) (m141) h136 (by omega) (by omega) (by omega) I137 F138 Z143 (by rw [show Int.toNat ((k135 + (1))) = Int.toNat (k135) + 1 by omega]; exact MGI_n X144 y168 (by omega)) rfl
                      · have c171 : (0) ≤ v165 := c171
                        refine av_wp_seq 1 (pc' := 72) (lv' := [some (.inr (.inr (.inl (some (77))))), some (.inl x), some (.inl k18), some (.inl k135)]) (st' := [.inr (.inr (.inl (some (77))))]) (h' := h136) rfl ?_
                        refine wq_gr (p' := 75) rfl rfl (congrArg Prod.fst (ly_k I137.1.1.1 77 rfl)) rfl (ly_g I137.1.1.1 77 55 117 rfl) ?_
                        refine av_wp_seq 1 (pc' := 76) (lv' := [some (.inr (.inr (.inl (some (77))))), some (.inl x), some (.inl k18), some (.inl k135)]) (st' := [.inr (.inr (.inl (some (77)))), .inr (.inr (.inl (some (117))))]) (h' := h136) rfl ?_
                        refine wq_gr (p' := 79) rfl rfl (congrArg Prod.fst (ly_k I137.1.1.1 77 rfl)) rfl (ly_g I137.1.1.1 77 10 88 rfl) ?_
                        refine av_wp_seq 5 (pc' := 85) (lv' := [some (.inr (.inr (.inl (some (77))))), some (.inl x), some (.inl k18), some (.inl k135)]) (st' := [.inl (((12) * k18) + k135), .inr (.inr (.inl (some (88)))), .inr (.inr (.inl (some (117))))]) (h' := h136) rfl ?_
                        obtain ⟨v172, e173⟩ : ∃ v, hA h136 88 (Int.toNat ((((12) * k18) + k135))) = v := ⟨_, rfl⟩
                        have g174 : -1 ≤ hA h136 88 (Int.toNat ((((12) * k18) + k135))) ∧ hA h136 88 (Int.toNat ((((12) * k18) + k135))) ≤ 15 := im_m I137.1.1 88 (by decide) (by decide) _
                        rw [e173] at g174
                        have y175 : U (Int.toNat (k18)) (21 * (Int.toNat (k135)) + 6) = v172 := ((RC (Int.toNat (k18)) (by omega)).2.1 (Int.toNat (k135)) (by omega)).1.2.2.2.2.2.2.symm.trans ((congrArg (hA g 88) (by omega)).trans ((congrFun (F138.2.2.2.2.2.2 88 rfl) _).symm.trans e173))
                        refine wq_al (p' := 86) (n := 960) rfl rfl (ly_k I137.1.1.1 88 rfl) (by omega) (e173) ?_
                        refine av_wp_seq 1 (pc' := 87) (lv' := [some (.inr (.inr (.inl (some (77))))), some (.inl x), some (.inl k18), some (.inl k135)]) (st' := [.inl (1), .inl v172, .inr (.inr (.inl (some (117))))]) (h' := h136) rfl ?_
                        refine xm_zs (p' := 88) (l := 16) rfl rfl I137 F138 (ly_k I137.1.1.1 117 rfl) (by omega) (by omega) (by omega) (fun h177 I178 F179 e180 => ?_)
                        have Z181 := ZE_a Z143 e180 rfl
                        refine av_wp_seq 2 (pc' := 38) (lv' := [some (.inr (.inr (.inl (some (77))))), some (.inl x), some (.inl k18), some (.inl (k135 + (1)))]) (st' := []) (h' := h177) rfl ?_
                        exact I147 _ (by omega) ((k135 + (1))) (n139) (a140) (m141) h177 (by omega) (by omega) (by omega) I178 F179 Z181 (by rw [show Int.toNat ((k135 + (1))) = Int.toNat (k135) + 1 by omega, hA_eu e180]; exact MGI_s X144 y175 (by omega)) rfl
              exact L146 _ ((0)) (n23) (a24) (m25) h20 (by omega) (by omega) (by omega) I21 F22 Z27 (MGI_0 X28.1) rfl
        exact L30 _ (x) (none) (n5) (a6) (m7) h2 rfl (by omega) (by omega) (by omega) I3 F4 Z9 (NDR_0 (by omega) (by omega) (FI_e X10 (by omega))) rfl
      · have c17 : k1 < (16) := c17
        refine av_wp_seq 1 (pc' := 9) (lv' := [some (.inr (.inr (.inl (some (77))))), some (.inl x), some (.inl k1), none]) (st' := [.inr (.inr (.inl (some (77))))]) (h' := h2) rfl ?_
        refine wq_gr (p' := 12) rfl rfl (congrArg Prod.fst (ly_k I3.1.1.1 77 rfl)) rfl (ly_g I3.1.1.1 77 55 117 rfl) ?_
        refine av_wp_seq 3 (pc' := 15) (lv' := [some (.inr (.inr (.inl (some (77))))), some (.inl x), some (.inl k1), none]) (st' := [.inl x, .inl k1, .inl k1, .inr (.inr (.inl (some (117))))]) (h' := h2) rfl ?_
        refine wq_k2 (p' := 18) rfl rfl ⟨by omega, by omega⟩ ⟨by omega, by omega⟩ (fun c182 => ?_) (fun c183 => ?_)
        · have c182 : k1 ≠ x := c182
          refine av_wp_seq 1 (pc' := 23) (lv' := [some (.inr (.inr (.inl (some (77))))), some (.inl x), some (.inl k1), none]) (st' := [.inl (0), .inl k1, .inr (.inr (.inl (some (117))))]) (h' := h2) rfl ?_
          refine xm_zs (p' := 24) (l := 16) rfl rfl I3 F4 (ly_k I3.1.1.1 117 rfl) (by omega) (by omega) (by omega) (fun h184 I185 F186 e187 => ?_)
          have Z188 := ZE_a Z9 e187 rfl
          refine av_wp_seq 2 (pc' := 2) (lv' := [some (.inr (.inr (.inl (some (77))))), some (.inl x), some (.inl (k1 + (1))), none]) (st' := []) (h' := h184) rfl ?_
          exact I13 _ (by omega) ((k1 + (1))) (n5) (a6) (m7) h184 (by omega) (by omega) I185 F186 Z188 (by rw [hA_eu e187]; exact FI_s X10 (by omega) (by show ((0) : Int) = if Int.toNat (k1) = (Int.toNat x) then 1 else 0; split <;> omega)) rfl
        · have c183 : k1 = x := c183
          refine av_wp_seq 2 (pc' := 23) (lv' := [some (.inr (.inr (.inl (some (77))))), some (.inl x), some (.inl k1), none]) (st' := [.inl (1), .inl k1, .inr (.inr (.inl (some (117))))]) (h' := h2) rfl ?_
          refine xm_zs (p' := 24) (l := 16) rfl rfl I3 F4 (ly_k I3.1.1.1 117 rfl) (by omega) (by omega) (by omega) (fun h189 I190 F191 e192 => ?_)
          have Z193 := ZE_a Z9 e192 rfl
          refine av_wp_seq 2 (pc' := 2) (lv' := [some (.inr (.inr (.inl (some (77))))), some (.inl x), some (.inl (k1 + (1))), none]) (st' := []) (h' := h189) rfl ?_
          exact I13 _ (by omega) ((k1 + (1))) (n5) (a6) (m7) h189 (by omega) (by omega) I190 F191 Z193 (by rw [hA_eu e192]; exact FI_s X10 (by omega) (by show ((1) : Int) = if Int.toNat (k1) = (Int.toNat x) then 1 else 0; split <;> omega)) rfl
  exact L12 _ ((0)) (n) (a) (m) h (by omega) (by omega) I F Z (FI_0 (fun j _ => rfl)) rfl

