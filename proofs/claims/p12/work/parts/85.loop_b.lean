set_option maxRecDepth 100000 in
set_option maxHeartbeats 8000000 in
theorem lo_16 {L : Nat} {f : Nat → Int} (hf : ∀ j, -2147483648 ≤ f j ∧ f j ≤ 2147483647) {i : Int} (hi : 0 ≤ i ∧ i + 6 ≤ (L : Int)) (hL : L ≤ 3072) {h : av_H} (B : BX h) {Q : Option av_V → av_H → Prop} (hk : ∀ h', BX h' → RM h h' → av_wp (some (L, f)) cd_L 1284 [some (.inr (.inr (.inr 100))), some (.inr (.inr (.inl (some (0))))), some (.inr (.inr (.inl (some (77))))), some (.inl i)] [] h' Q) : av_wp (some (L, f)) cd_L 788 [some (.inr (.inr (.inr 100))), some (.inr (.inr (.inl (some (0))))), some (.inr (.inr (.inl (some (77))))), some (.inl i)] [] h Q := by
  refine av_wp_seq 5 (pc' := 793) (lv' := [some (.inr (.inr (.inr 100))), some (.inr (.inr (.inl (some (0))))), some (.inr (.inr (.inl (some (77))))), some (.inl i)]) (st' := [.inl (i + (1)), .inr (.inr (.inr 100)), .inr (.inr (.inl (some (0))))]) (h' := h) rfl ?_
  refine wq_scr (p' := 794) rfl rfl ⟨by omega, by omega, by omega⟩ ?_
  refine av_wp_seq 4 (pc' := 798) (lv' := [some (.inr (.inr (.inr 100))), some (.inr (.inr (.inl (some (0))))), some (.inr (.inr (.inl (some (77))))), some (.inl i)]) (st' := [.inl (i + (2)), .inr (.inr (.inr 100)), .inl (f (Int.toNat (i + (1)))), .inr (.inr (.inl (some (0))))]) (h' := h) rfl ?_
  refine wq_scr (p' := 799) rfl rfl ⟨by omega, by omega, by omega⟩ ?_
  refine av_wp_seq 4 (pc' := 803) (lv' := [some (.inr (.inr (.inr 100))), some (.inr (.inr (.inl (some (0))))), some (.inr (.inr (.inl (some (77))))), some (.inl i)]) (st' := [.inl (i + (3)), .inr (.inr (.inr 100)), .inl (f (Int.toNat (i + (2)))), .inl (f (Int.toNat (i + (1)))), .inr (.inr (.inl (some (0))))]) (h' := h) rfl ?_
  refine wq_scr (p' := 804) rfl rfl ⟨by omega, by omega, by omega⟩ ?_
  refine av_wp_seq 4 (pc' := 808) (lv' := [some (.inr (.inr (.inr 100))), some (.inr (.inr (.inl (some (0))))), some (.inr (.inr (.inl (some (77))))), some (.inl i)]) (st' := [.inl (i + (4)), .inr (.inr (.inr 100)), .inl (f (Int.toNat (i + (3)))), .inl (f (Int.toNat (i + (2)))), .inl (f (Int.toNat (i + (1)))), .inr (.inr (.inl (some (0))))]) (h' := h) rfl ?_
  refine wq_scr (p' := 809) rfl rfl ⟨by omega, by omega, by omega⟩ ?_
  refine av_wp_seq 4 (pc' := 813) (lv' := [some (.inr (.inr (.inr 100))), some (.inr (.inr (.inl (some (0))))), some (.inr (.inr (.inl (some (77))))), some (.inl i)]) (st' := [.inl (i + (5)), .inr (.inr (.inr 100)), .inl (f (Int.toNat (i + (4)))), .inl (f (Int.toNat (i + (3)))), .inl (f (Int.toNat (i + (2)))), .inl (f (Int.toNat (i + (1)))), .inr (.inr (.inl (some (0))))]) (h' := h) rfl ?_
  refine wq_scr (p' := 814) rfl rfl ⟨by omega, by omega, by omega⟩ ?_
  refine wq_cv (p' := 817) (av_qc (.invokevirtual 83) 112 5 0 7) 8 cd_112 [.inl (f (Int.toNat (i + (5)))), .inl (f (Int.toNat (i + (4)))), .inl (f (Int.toNat (i + (3)))), .inl (f (Int.toNat (i + (2)))), .inl (f (Int.toNat (i + (1))))] (0) 7 [some (.inr (.inr (.inl (some (0))))), some (.inl (f (Int.toNat (i + (1))))), some (.inl (f (Int.toNat (i + (2))))), some (.inl (f (Int.toNat (i + (3))))), some (.inl (f (Int.toNat (i + (4))))), some (.inl (f (Int.toNat (i + (5))))), none, none] rfl rfl rfl pp_112 rfl rfl rfl (congrArg Prod.fst (ly_k B.1.1.1 0 rfl)) rfl rfl rfl rfl ?_
  refine av_wp_mono (oz_112 B (f (Int.toNat (i + (1)))) (f (Int.toNat (i + (2)))) (f (Int.toNat (i + (3)))) (f (Int.toNat (i + (4)))) (f (Int.toNat (i + (5)))) (hf _) (hf _) (hf _) (hf _) (hf _)) (fun v h1 z => ?_)
  obtain ⟨x, rfl, k77, W⟩ := z
  show av_wp (some (L, f)) cd_L 817 [some (.inr (.inr (.inr 100))), some (.inr (.inr (.inl (some (0))))), some (.inr (.inr (.inl (some (77))))), some (.inl i)] [.inl x] h1 Q
  refine av_wp_seq 6 (pc' := 823) (lv' := [some (.inr (.inr (.inr 100))), some (.inr (.inr (.inl (some (0))))), some (.inr (.inr (.inl (some (77))))), some (.inl i)]) (st' := [.inl (i + (1)), .inr (.inr (.inr 100)), .inr (.inr (.inl (some (77))))]) (h' := h1) rfl ?_
  refine wq_scr (p' := 824) rfl rfl ⟨by omega, by omega, by omega⟩ ?_
  refine av_wp_seq 4 (pc' := 828) (lv' := [some (.inr (.inr (.inr 100))), some (.inr (.inr (.inl (some (0))))), some (.inr (.inr (.inl (some (77))))), some (.inl i)]) (st' := [.inl (i + (2)), .inr (.inr (.inr 100)), .inl (f (Int.toNat (i + (1)))), .inr (.inr (.inl (some (77))))]) (h' := h1) rfl ?_
  refine wq_scr (p' := 829) rfl rfl ⟨by omega, by omega, by omega⟩ ?_
  refine av_wp_seq 4 (pc' := 833) (lv' := [some (.inr (.inr (.inr 100))), some (.inr (.inr (.inl (some (0))))), some (.inr (.inr (.inl (some (77))))), some (.inl i)]) (st' := [.inl (i + (3)), .inr (.inr (.inr 100)), .inl (f (Int.toNat (i + (2)))), .inl (f (Int.toNat (i + (1)))), .inr (.inr (.inl (some (77))))]) (h' := h1) rfl ?_
  refine wq_scr (p' := 834) rfl rfl ⟨by omega, by omega, by omega⟩ ?_
  refine av_wp_seq 4 (pc' := 838) (lv' := [some (.inr (.inr (.inr 100))), some (.inr (.inr (.inl (some (0))))), some (.inr (.inr (.inl (some (77))))), some (.inl i)]) (st' := [.inl (i + (4)), .inr (.inr (.inr 100)), .inl (f (Int.toNat (i + (3)))), .inl (f (Int.toNat (i + (2)))), .inl (f (Int.toNat (i + (1)))), .inr (.inr (.inl (some (77))))]) (h' := h1) rfl ?_
  refine wq_scr (p' := 839) rfl rfl ⟨by omega, by omega, by omega⟩ ?_
  refine av_wp_seq 4 (pc' := 843) (lv' := [some (.inr (.inr (.inr 100))), some (.inr (.inr (.inl (some (0))))), some (.inr (.inr (.inl (some (77))))), some (.inl i)]) (st' := [.inl (i + (5)), .inr (.inr (.inr 100)), .inl (f (Int.toNat (i + (4)))), .inl (f (Int.toNat (i + (3)))), .inl (f (Int.toNat (i + (2)))), .inl (f (Int.toNat (i + (1)))), .inr (.inr (.inl (some (77))))]) (h' := h1) rfl ?_
  refine wq_scr (p' := 844) rfl rfl ⟨by omega, by omega, by omega⟩ ?_
  refine wq_cv (p' := 847) (av_qc (.invokevirtual 86) 199 5 0 8) 6 cd_199 [.inl (f (Int.toNat (i + (5)))), .inl (f (Int.toNat (i + (4)))), .inl (f (Int.toNat (i + (3)))), .inl (f (Int.toNat (i + (2)))), .inl (f (Int.toNat (i + (1))))] (77) 8 [some (.inr (.inr (.inl (some (77))))), some (.inl (f (Int.toNat (i + (1))))), some (.inl (f (Int.toNat (i + (2))))), some (.inl (f (Int.toNat (i + (3))))), some (.inl (f (Int.toNat (i + (4))))), some (.inl (f (Int.toNat (i + (5)))))] rfl rfl rfl pp_199 rfl rfl rfl (congrArg Prod.fst k77) rfl rfl rfl rfl ?_
  refine av_wp_mono W (fun v h2 z => ?_)
  obtain ⟨y, rfl, e, B2, R2⟩ := z
  show av_wp (some (L, f)) cd_L 847 [some (.inr (.inr (.inr 100))), some (.inr (.inr (.inl (some (0))))), some (.inr (.inr (.inl (some (77))))), some (.inl i)] [.inl y] h2 Q
  refine av_wp_seq 2 (pc' := 1284) (lv' := [some (.inr (.inr (.inr 100))), some (.inr (.inr (.inl (some (0))))), some (.inr (.inr (.inl (some (77))))), some (.inl i)]) (st' := []) (h' := h2) rfl ?_
  exact hk h2 B2 R2
set_option maxRecDepth 100000 in
set_option maxHeartbeats 8000000 in
theorem lo_17 {L : Nat} {f : Nat → Int} (hf : ∀ j, -2147483648 ≤ f j ∧ f j ≤ 2147483647) {i : Int} (hi : 0 ≤ i ∧ i + 6 ≤ (L : Int)) (hL : L ≤ 3072) {h : av_H} (B : BX h) {Q : Option av_V → av_H → Prop} (hk : ∀ h', BX h' → RM h h' → av_wp (some (L, f)) cd_L 1284 [some (.inr (.inr (.inr 100))), some (.inr (.inr (.inl (some (0))))), some (.inr (.inr (.inl (some (77))))), some (.inl i)] [] h' Q) : av_wp (some (L, f)) cd_L 851 [some (.inr (.inr (.inr 100))), some (.inr (.inr (.inl (some (0))))), some (.inr (.inr (.inl (some (77))))), some (.inl i)] [] h Q := by
  refine av_wp_seq 5 (pc' := 856) (lv' := [some (.inr (.inr (.inr 100))), some (.inr (.inr (.inl (some (0))))), some (.inr (.inr (.inl (some (77))))), some (.inl i)]) (st' := [.inl (i + (1)), .inr (.inr (.inr 100)), .inr (.inr (.inl (some (0))))]) (h' := h) rfl ?_
  refine wq_scr (p' := 857) rfl rfl ⟨by omega, by omega, by omega⟩ ?_
  refine av_wp_seq 4 (pc' := 861) (lv' := [some (.inr (.inr (.inr 100))), some (.inr (.inr (.inl (some (0))))), some (.inr (.inr (.inl (some (77))))), some (.inl i)]) (st' := [.inl (i + (2)), .inr (.inr (.inr 100)), .inl (f (Int.toNat (i + (1)))), .inr (.inr (.inl (some (0))))]) (h' := h) rfl ?_
  refine wq_scr (p' := 862) rfl rfl ⟨by omega, by omega, by omega⟩ ?_
  refine av_wp_seq 4 (pc' := 866) (lv' := [some (.inr (.inr (.inr 100))), some (.inr (.inr (.inl (some (0))))), some (.inr (.inr (.inl (some (77))))), some (.inl i)]) (st' := [.inl (i + (3)), .inr (.inr (.inr 100)), .inl (f (Int.toNat (i + (2)))), .inl (f (Int.toNat (i + (1)))), .inr (.inr (.inl (some (0))))]) (h' := h) rfl ?_
  refine wq_scr (p' := 867) rfl rfl ⟨by omega, by omega, by omega⟩ ?_
  refine av_wp_seq 4 (pc' := 871) (lv' := [some (.inr (.inr (.inr 100))), some (.inr (.inr (.inl (some (0))))), some (.inr (.inr (.inl (some (77))))), some (.inl i)]) (st' := [.inl (i + (4)), .inr (.inr (.inr 100)), .inl (f (Int.toNat (i + (3)))), .inl (f (Int.toNat (i + (2)))), .inl (f (Int.toNat (i + (1)))), .inr (.inr (.inl (some (0))))]) (h' := h) rfl ?_
  refine wq_scr (p' := 872) rfl rfl ⟨by omega, by omega, by omega⟩ ?_
  refine wq_cv (p' := 875) (av_qc (.invokevirtual 87) 113 4 0 7) 5 cd_113 [.inl (f (Int.toNat (i + (4)))), .inl (f (Int.toNat (i + (3)))), .inl (f (Int.toNat (i + (2)))), .inl (f (Int.toNat (i + (1))))] (0) 7 [some (.inr (.inr (.inl (some (0))))), some (.inl (f (Int.toNat (i + (1))))), some (.inl (f (Int.toNat (i + (2))))), some (.inl (f (Int.toNat (i + (3))))), some (.inl (f (Int.toNat (i + (4)))))] rfl rfl rfl pp_113 rfl rfl rfl (congrArg Prod.fst (ly_k B.1.1.1 0 rfl)) rfl rfl rfl rfl ?_
  refine av_wp_mono (oz_113 B (f (Int.toNat (i + (1)))) (f (Int.toNat (i + (2)))) (f (Int.toNat (i + (3)))) (f (Int.toNat (i + (4)))) (hf _) (hf _) (hf _) (hf _)) (fun v h1 z => ?_)
  obtain ⟨x, rfl, k77, W⟩ := z
  show av_wp (some (L, f)) cd_L 875 [some (.inr (.inr (.inr 100))), some (.inr (.inr (.inl (some (0))))), some (.inr (.inr (.inl (some (77))))), some (.inl i)] [.inl x] h1 Q
  refine av_wp_seq 6 (pc' := 881) (lv' := [some (.inr (.inr (.inr 100))), some (.inr (.inr (.inl (some (0))))), some (.inr (.inr (.inl (some (77))))), some (.inl i)]) (st' := [.inl (i + (1)), .inr (.inr (.inr 100)), .inr (.inr (.inl (some (77))))]) (h' := h1) rfl ?_
  refine wq_scr (p' := 882) rfl rfl ⟨by omega, by omega, by omega⟩ ?_
  refine av_wp_seq 4 (pc' := 886) (lv' := [some (.inr (.inr (.inr 100))), some (.inr (.inr (.inl (some (0))))), some (.inr (.inr (.inl (some (77))))), some (.inl i)]) (st' := [.inl (i + (2)), .inr (.inr (.inr 100)), .inl (f (Int.toNat (i + (1)))), .inr (.inr (.inl (some (77))))]) (h' := h1) rfl ?_
  refine wq_scr (p' := 887) rfl rfl ⟨by omega, by omega, by omega⟩ ?_
  refine av_wp_seq 4 (pc' := 891) (lv' := [some (.inr (.inr (.inr 100))), some (.inr (.inr (.inl (some (0))))), some (.inr (.inr (.inl (some (77))))), some (.inl i)]) (st' := [.inl (i + (3)), .inr (.inr (.inr 100)), .inl (f (Int.toNat (i + (2)))), .inl (f (Int.toNat (i + (1)))), .inr (.inr (.inl (some (77))))]) (h' := h1) rfl ?_
  refine wq_scr (p' := 892) rfl rfl ⟨by omega, by omega, by omega⟩ ?_
  refine av_wp_seq 4 (pc' := 896) (lv' := [some (.inr (.inr (.inr 100))), some (.inr (.inr (.inl (some (0))))), some (.inr (.inr (.inl (some (77))))), some (.inl i)]) (st' := [.inl (i + (4)), .inr (.inr (.inr 100)), .inl (f (Int.toNat (i + (3)))), .inl (f (Int.toNat (i + (2)))), .inl (f (Int.toNat (i + (1)))), .inr (.inr (.inl (some (77))))]) (h' := h1) rfl ?_
  refine wq_scr (p' := 897) rfl rfl ⟨by omega, by omega, by omega⟩ ?_
  refine wq_cv (p' := 900) (av_qc (.invokevirtual 90) 201 4 0 8) 5 cd_201 [.inl (f (Int.toNat (i + (4)))), .inl (f (Int.toNat (i + (3)))), .inl (f (Int.toNat (i + (2)))), .inl (f (Int.toNat (i + (1))))] (77) 8 [some (.inr (.inr (.inl (some (77))))), some (.inl (f (Int.toNat (i + (1))))), some (.inl (f (Int.toNat (i + (2))))), some (.inl (f (Int.toNat (i + (3))))), some (.inl (f (Int.toNat (i + (4)))))] rfl rfl rfl pp_201 rfl rfl rfl (congrArg Prod.fst k77) rfl rfl rfl rfl ?_
  refine av_wp_mono W (fun v h2 z => ?_)
  obtain ⟨y, rfl, e, B2, R2⟩ := z
  show av_wp (some (L, f)) cd_L 900 [some (.inr (.inr (.inr 100))), some (.inr (.inr (.inl (some (0))))), some (.inr (.inr (.inl (some (77))))), some (.inl i)] [.inl y] h2 Q
  refine av_wp_seq 2 (pc' := 1284) (lv' := [some (.inr (.inr (.inr 100))), some (.inr (.inr (.inl (some (0))))), some (.inr (.inr (.inl (some (77))))), some (.inl i)]) (st' := []) (h' := h2) rfl ?_
  exact hk h2 B2 R2
set_option maxRecDepth 100000 in
set_option maxHeartbeats 8000000 in
theorem lo_18 {L : Nat} {f : Nat → Int} (hf : ∀ j, -2147483648 ≤ f j ∧ f j ≤ 2147483647) {i : Int} (hi : 0 ≤ i ∧ i + 6 ≤ (L : Int)) (hL : L ≤ 3072) {h : av_H} (B : BX h) {Q : Option av_V → av_H → Prop} (hk : ∀ h', BX h' → RM h h' → av_wp (some (L, f)) cd_L 1284 [some (.inr (.inr (.inr 100))), some (.inr (.inr (.inl (some (0))))), some (.inr (.inr (.inl (some (77))))), some (.inl i)] [] h' Q) : av_wp (some (L, f)) cd_L 904 [some (.inr (.inr (.inr 100))), some (.inr (.inr (.inl (some (0))))), some (.inr (.inr (.inl (some (77))))), some (.inl i)] [] h Q := by
  refine av_wp_seq 5 (pc' := 909) (lv' := [some (.inr (.inr (.inr 100))), some (.inr (.inr (.inl (some (0))))), some (.inr (.inr (.inl (some (77))))), some (.inl i)]) (st' := [.inl (i + (1)), .inr (.inr (.inr 100)), .inr (.inr (.inl (some (0))))]) (h' := h) rfl ?_
  refine wq_scr (p' := 910) rfl rfl ⟨by omega, by omega, by omega⟩ ?_
  refine av_wp_seq 4 (pc' := 914) (lv' := [some (.inr (.inr (.inr 100))), some (.inr (.inr (.inl (some (0))))), some (.inr (.inr (.inl (some (77))))), some (.inl i)]) (st' := [.inl (i + (2)), .inr (.inr (.inr 100)), .inl (f (Int.toNat (i + (1)))), .inr (.inr (.inl (some (0))))]) (h' := h) rfl ?_
  refine wq_scr (p' := 915) rfl rfl ⟨by omega, by omega, by omega⟩ ?_
  refine wq_cv (p' := 918) (av_qc (.invokevirtual 91) 114 2 0 7) 8 cd_114 [.inl (f (Int.toNat (i + (2)))), .inl (f (Int.toNat (i + (1))))] (0) 7 [some (.inr (.inr (.inl (some (0))))), some (.inl (f (Int.toNat (i + (1))))), some (.inl (f (Int.toNat (i + (2))))), none, none, none, none, none] rfl rfl rfl pp_114 rfl rfl rfl (congrArg Prod.fst (ly_k B.1.1.1 0 rfl)) rfl rfl rfl rfl ?_
  refine av_wp_mono (oz_114 B (f (Int.toNat (i + (1)))) (f (Int.toNat (i + (2)))) (hf _) (hf _)) (fun v h1 z => ?_)
  obtain ⟨x, rfl, k77, W⟩ := z
  show av_wp (some (L, f)) cd_L 918 [some (.inr (.inr (.inr 100))), some (.inr (.inr (.inl (some (0))))), some (.inr (.inr (.inl (some (77))))), some (.inl i)] [.inl x] h1 Q
  refine av_wp_seq 6 (pc' := 924) (lv' := [some (.inr (.inr (.inr 100))), some (.inr (.inr (.inl (some (0))))), some (.inr (.inr (.inl (some (77))))), some (.inl i)]) (st' := [.inl (i + (1)), .inr (.inr (.inr 100)), .inr (.inr (.inl (some (77))))]) (h' := h1) rfl ?_
  refine wq_scr (p' := 925) rfl rfl ⟨by omega, by omega, by omega⟩ ?_
  refine av_wp_seq 4 (pc' := 929) (lv' := [some (.inr (.inr (.inr 100))), some (.inr (.inr (.inl (some (0))))), some (.inr (.inr (.inl (some (77))))), some (.inl i)]) (st' := [.inl (i + (2)), .inr (.inr (.inr 100)), .inl (f (Int.toNat (i + (1)))), .inr (.inr (.inl (some (77))))]) (h' := h1) rfl ?_
  refine wq_scr (p' := 930) rfl rfl ⟨by omega, by omega, by omega⟩ ?_
  refine wq_cv (p' := 933) (av_qc (.invokevirtual 94) 202 2 0 8) 5 cd_202 [.inl (f (Int.toNat (i + (2)))), .inl (f (Int.toNat (i + (1))))] (77) 8 [some (.inr (.inr (.inl (some (77))))), some (.inl (f (Int.toNat (i + (1))))), some (.inl (f (Int.toNat (i + (2))))), none, none] rfl rfl rfl pp_202 rfl rfl rfl (congrArg Prod.fst k77) rfl rfl rfl rfl ?_
  refine av_wp_mono W (fun v h2 z => ?_)
  obtain ⟨y, rfl, e, B2, R2⟩ := z
  show av_wp (some (L, f)) cd_L 933 [some (.inr (.inr (.inr 100))), some (.inr (.inr (.inl (some (0))))), some (.inr (.inr (.inl (some (77))))), some (.inl i)] [.inl y] h2 Q
  refine av_wp_seq 2 (pc' := 1284) (lv' := [some (.inr (.inr (.inr 100))), some (.inr (.inr (.inl (some (0))))), some (.inr (.inr (.inl (some (77))))), some (.inl i)]) (st' := []) (h' := h2) rfl ?_
  exact hk h2 B2 R2
set_option maxRecDepth 100000 in
set_option maxHeartbeats 8000000 in
theorem lo_19 {L : Nat} {f : Nat → Int} (hf : ∀ j, -2147483648 ≤ f j ∧ f j ≤ 2147483647) {i : Int} (hi : 0 ≤ i ∧ i + 6 ≤ (L : Int)) (hL : L ≤ 3072) {h : av_H} (B : BX h) {Q : Option av_V → av_H → Prop} (hk : ∀ h', BX h' → RM h h' → av_wp (some (L, f)) cd_L 1284 [some (.inr (.inr (.inr 100))), some (.inr (.inr (.inl (some (0))))), some (.inr (.inr (.inl (some (77))))), some (.inl i)] [] h' Q) : av_wp (some (L, f)) cd_L 937 [some (.inr (.inr (.inr 100))), some (.inr (.inr (.inl (some (0))))), some (.inr (.inr (.inl (some (77))))), some (.inl i)] [] h Q := by
  refine av_wp_seq 5 (pc' := 942) (lv' := [some (.inr (.inr (.inr 100))), some (.inr (.inr (.inl (some (0))))), some (.inr (.inr (.inl (some (77))))), some (.inl i)]) (st' := [.inl (i + (1)), .inr (.inr (.inr 100)), .inr (.inr (.inl (some (0))))]) (h' := h) rfl ?_
  refine wq_scr (p' := 943) rfl rfl ⟨by omega, by omega, by omega⟩ ?_
  refine wq_cv (p' := 946) (av_qc (.invokevirtual 95) 115 1 0 7) 6 cd_115 [.inl (f (Int.toNat (i + (1))))] (0) 7 [some (.inr (.inr (.inl (some (0))))), some (.inl (f (Int.toNat (i + (1))))), none, none, none, none] rfl rfl rfl pp_115 rfl rfl rfl (congrArg Prod.fst (ly_k B.1.1.1 0 rfl)) rfl rfl rfl rfl ?_
  refine av_wp_mono (oz_115 B (f (Int.toNat (i + (1)))) (hf _)) (fun v h1 z => ?_)
  obtain ⟨x, rfl, k77, W⟩ := z
  show av_wp (some (L, f)) cd_L 946 [some (.inr (.inr (.inr 100))), some (.inr (.inr (.inl (some (0))))), some (.inr (.inr (.inl (some (77))))), some (.inl i)] [.inl x] h1 Q
  refine av_wp_seq 6 (pc' := 952) (lv' := [some (.inr (.inr (.inr 100))), some (.inr (.inr (.inl (some (0))))), some (.inr (.inr (.inl (some (77))))), some (.inl i)]) (st' := [.inl (i + (1)), .inr (.inr (.inr 100)), .inr (.inr (.inl (some (77))))]) (h' := h1) rfl ?_
  refine wq_scr (p' := 953) rfl rfl ⟨by omega, by omega, by omega⟩ ?_
  refine wq_cv (p' := 956) (av_qc (.invokevirtual 98) 204 1 0 8) 4 cd_204 [.inl (f (Int.toNat (i + (1))))] (77) 8 [some (.inr (.inr (.inl (some (77))))), some (.inl (f (Int.toNat (i + (1))))), none, none] rfl rfl rfl pp_204 rfl rfl rfl (congrArg Prod.fst k77) rfl rfl rfl rfl ?_
  refine av_wp_mono W (fun v h2 z => ?_)
  obtain ⟨y, rfl, e, B2, R2⟩ := z
  show av_wp (some (L, f)) cd_L 956 [some (.inr (.inr (.inr 100))), some (.inr (.inr (.inl (some (0))))), some (.inr (.inr (.inl (some (77))))), some (.inl i)] [.inl y] h2 Q
  refine av_wp_seq 2 (pc' := 1284) (lv' := [some (.inr (.inr (.inr 100))), some (.inr (.inr (.inl (some (0))))), some (.inr (.inr (.inl (some (77))))), some (.inl i)]) (st' := []) (h' := h2) rfl ?_
  exact hk h2 B2 R2
set_option maxRecDepth 100000 in
set_option maxHeartbeats 8000000 in
theorem lo_20 {L : Nat} {f : Nat → Int} (hf : ∀ j, -2147483648 ≤ f j ∧ f j ≤ 2147483647) {i : Int} (hi : 0 ≤ i ∧ i + 6 ≤ (L : Int)) (hL : L ≤ 3072) {h : av_H} (B : BX h) {Q : Option av_V → av_H → Prop} (hk : ∀ h', BX h' → RM h h' → av_wp (some (L, f)) cd_L 1284 [some (.inr (.inr (.inr 100))), some (.inr (.inr (.inl (some (0))))), some (.inr (.inr (.inl (some (77))))), some (.inl i)] [] h' Q) : av_wp (some (L, f)) cd_L 960 [some (.inr (.inr (.inr 100))), some (.inr (.inr (.inl (some (0))))), some (.inr (.inr (.inl (some (77))))), some (.inl i)] [] h Q := by
  refine av_wp_seq 5 (pc' := 965) (lv' := [some (.inr (.inr (.inr 100))), some (.inr (.inr (.inl (some (0))))), some (.inr (.inr (.inl (some (77))))), some (.inl i)]) (st' := [.inl (i + (1)), .inr (.inr (.inr 100)), .inr (.inr (.inl (some (0))))]) (h' := h) rfl ?_
  refine wq_scr (p' := 966) rfl rfl ⟨by omega, by omega, by omega⟩ ?_
  refine av_wp_seq 4 (pc' := 970) (lv' := [some (.inr (.inr (.inr 100))), some (.inr (.inr (.inl (some (0))))), some (.inr (.inr (.inl (some (77))))), some (.inl i)]) (st' := [.inl (i + (2)), .inr (.inr (.inr 100)), .inl (f (Int.toNat (i + (1)))), .inr (.inr (.inl (some (0))))]) (h' := h) rfl ?_
  refine wq_scr (p' := 971) rfl rfl ⟨by omega, by omega, by omega⟩ ?_
  refine av_wp_seq 4 (pc' := 975) (lv' := [some (.inr (.inr (.inr 100))), some (.inr (.inr (.inl (some (0))))), some (.inr (.inr (.inl (some (77))))), some (.inl i)]) (st' := [.inl (i + (3)), .inr (.inr (.inr 100)), .inl (f (Int.toNat (i + (2)))), .inl (f (Int.toNat (i + (1)))), .inr (.inr (.inl (some (0))))]) (h' := h) rfl ?_
  refine wq_scr (p' := 976) rfl rfl ⟨by omega, by omega, by omega⟩ ?_
  refine av_wp_seq 4 (pc' := 980) (lv' := [some (.inr (.inr (.inr 100))), some (.inr (.inr (.inl (some (0))))), some (.inr (.inr (.inl (some (77))))), some (.inl i)]) (st' := [.inl (i + (4)), .inr (.inr (.inr 100)), .inl (f (Int.toNat (i + (3)))), .inl (f (Int.toNat (i + (2)))), .inl (f (Int.toNat (i + (1)))), .inr (.inr (.inl (some (0))))]) (h' := h) rfl ?_
  refine wq_scr (p' := 981) rfl rfl ⟨by omega, by omega, by omega⟩ ?_
  refine wq_cv (p' := 984) (av_qc (.invokevirtual 99) 116 4 0 7) 5 cd_116 [.inl (f (Int.toNat (i + (4)))), .inl (f (Int.toNat (i + (3)))), .inl (f (Int.toNat (i + (2)))), .inl (f (Int.toNat (i + (1))))] (0) 7 [some (.inr (.inr (.inl (some (0))))), some (.inl (f (Int.toNat (i + (1))))), some (.inl (f (Int.toNat (i + (2))))), some (.inl (f (Int.toNat (i + (3))))), some (.inl (f (Int.toNat (i + (4)))))] rfl rfl rfl pp_116 rfl rfl rfl (congrArg Prod.fst (ly_k B.1.1.1 0 rfl)) rfl rfl rfl rfl ?_
  refine av_wp_mono (oz_116 B (f (Int.toNat (i + (1)))) (f (Int.toNat (i + (2)))) (f (Int.toNat (i + (3)))) (f (Int.toNat (i + (4)))) (hf _) (hf _) (hf _) (hf _)) (fun v h1 z => ?_)
  obtain ⟨x, rfl, k77, W⟩ := z
  show av_wp (some (L, f)) cd_L 984 [some (.inr (.inr (.inr 100))), some (.inr (.inr (.inl (some (0))))), some (.inr (.inr (.inl (some (77))))), some (.inl i)] [.inl x] h1 Q
  refine av_wp_seq 6 (pc' := 990) (lv' := [some (.inr (.inr (.inr 100))), some (.inr (.inr (.inl (some (0))))), some (.inr (.inr (.inl (some (77))))), some (.inl i)]) (st' := [.inl (i + (1)), .inr (.inr (.inr 100)), .inr (.inr (.inl (some (77))))]) (h' := h1) rfl ?_
  refine wq_scr (p' := 991) rfl rfl ⟨by omega, by omega, by omega⟩ ?_
  refine av_wp_seq 4 (pc' := 995) (lv' := [some (.inr (.inr (.inr 100))), some (.inr (.inr (.inl (some (0))))), some (.inr (.inr (.inl (some (77))))), some (.inl i)]) (st' := [.inl (i + (2)), .inr (.inr (.inr 100)), .inl (f (Int.toNat (i + (1)))), .inr (.inr (.inl (some (77))))]) (h' := h1) rfl ?_
  refine wq_scr (p' := 996) rfl rfl ⟨by omega, by omega, by omega⟩ ?_
  refine av_wp_seq 4 (pc' := 1000) (lv' := [some (.inr (.inr (.inr 100))), some (.inr (.inr (.inl (some (0))))), some (.inr (.inr (.inl (some (77))))), some (.inl i)]) (st' := [.inl (i + (3)), .inr (.inr (.inr 100)), .inl (f (Int.toNat (i + (2)))), .inl (f (Int.toNat (i + (1)))), .inr (.inr (.inl (some (77))))]) (h' := h1) rfl ?_
  refine wq_scr (p' := 1001) rfl rfl ⟨by omega, by omega, by omega⟩ ?_
  refine av_wp_seq 4 (pc' := 1005) (lv' := [some (.inr (.inr (.inr 100))), some (.inr (.inr (.inl (some (0))))), some (.inr (.inr (.inl (some (77))))), some (.inl i)]) (st' := [.inl (i + (4)), .inr (.inr (.inr 100)), .inl (f (Int.toNat (i + (3)))), .inl (f (Int.toNat (i + (2)))), .inl (f (Int.toNat (i + (1)))), .inr (.inr (.inl (some (77))))]) (h' := h1) rfl ?_
  refine wq_scr (p' := 1006) rfl rfl ⟨by omega, by omega, by omega⟩ ?_
  refine wq_cv (p' := 1009) (av_qc (.invokevirtual 102) 205 4 0 8) 9 cd_205 [.inl (f (Int.toNat (i + (4)))), .inl (f (Int.toNat (i + (3)))), .inl (f (Int.toNat (i + (2)))), .inl (f (Int.toNat (i + (1))))] (77) 8 [some (.inr (.inr (.inl (some (77))))), some (.inl (f (Int.toNat (i + (1))))), some (.inl (f (Int.toNat (i + (2))))), some (.inl (f (Int.toNat (i + (3))))), some (.inl (f (Int.toNat (i + (4))))), none, none, none, none] rfl rfl rfl pp_205 rfl rfl rfl (congrArg Prod.fst k77) rfl rfl rfl rfl ?_
  refine av_wp_mono W (fun v h2 z => ?_)
  obtain ⟨y, rfl, e, B2, R2⟩ := z
  show av_wp (some (L, f)) cd_L 1009 [some (.inr (.inr (.inr 100))), some (.inr (.inr (.inl (some (0))))), some (.inr (.inr (.inl (some (77))))), some (.inl i)] [.inl y] h2 Q
  refine av_wp_seq 2 (pc' := 1284) (lv' := [some (.inr (.inr (.inr 100))), some (.inr (.inr (.inl (some (0))))), some (.inr (.inr (.inl (some (77))))), some (.inl i)]) (st' := []) (h' := h2) rfl ?_
  exact hk h2 B2 R2
set_option maxRecDepth 100000 in
set_option maxHeartbeats 8000000 in
theorem lo_21 {L : Nat} {f : Nat → Int} (hf : ∀ j, -2147483648 ≤ f j ∧ f j ≤ 2147483647) {i : Int} (hi : 0 ≤ i ∧ i + 6 ≤ (L : Int)) (hL : L ≤ 3072) {h : av_H} (B : BX h) {Q : Option av_V → av_H → Prop} (hk : ∀ h', BX h' → RM h h' → av_wp (some (L, f)) cd_L 1284 [some (.inr (.inr (.inr 100))), some (.inr (.inr (.inl (some (0))))), some (.inr (.inr (.inl (some (77))))), some (.inl i)] [] h' Q) : av_wp (some (L, f)) cd_L 1013 [some (.inr (.inr (.inr 100))), some (.inr (.inr (.inl (some (0))))), some (.inr (.inr (.inl (some (77))))), some (.inl i)] [] h Q := by
  refine av_wp_seq 5 (pc' := 1018) (lv' := [some (.inr (.inr (.inr 100))), some (.inr (.inr (.inl (some (0))))), some (.inr (.inr (.inl (some (77))))), some (.inl i)]) (st' := [.inl (i + (1)), .inr (.inr (.inr 100)), .inr (.inr (.inl (some (0))))]) (h' := h) rfl ?_
  refine wq_scr (p' := 1019) rfl rfl ⟨by omega, by omega, by omega⟩ ?_
  refine av_wp_seq 4 (pc' := 1023) (lv' := [some (.inr (.inr (.inr 100))), some (.inr (.inr (.inl (some (0))))), some (.inr (.inr (.inl (some (77))))), some (.inl i)]) (st' := [.inl (i + (2)), .inr (.inr (.inr 100)), .inl (f (Int.toNat (i + (1)))), .inr (.inr (.inl (some (0))))]) (h' := h) rfl ?_
  refine wq_scr (p' := 1024) rfl rfl ⟨by omega, by omega, by omega⟩ ?_
  refine av_wp_seq 4 (pc' := 1028) (lv' := [some (.inr (.inr (.inr 100))), some (.inr (.inr (.inl (some (0))))), some (.inr (.inr (.inl (some (77))))), some (.inl i)]) (st' := [.inl (i + (3)), .inr (.inr (.inr 100)), .inl (f (Int.toNat (i + (2)))), .inl (f (Int.toNat (i + (1)))), .inr (.inr (.inl (some (0))))]) (h' := h) rfl ?_
  refine wq_scr (p' := 1029) rfl rfl ⟨by omega, by omega, by omega⟩ ?_
  refine av_wp_seq 4 (pc' := 1033) (lv' := [some (.inr (.inr (.inr 100))), some (.inr (.inr (.inl (some (0))))), some (.inr (.inr (.inl (some (77))))), some (.inl i)]) (st' := [.inl (i + (4)), .inr (.inr (.inr 100)), .inl (f (Int.toNat (i + (3)))), .inl (f (Int.toNat (i + (2)))), .inl (f (Int.toNat (i + (1)))), .inr (.inr (.inl (some (0))))]) (h' := h) rfl ?_
  refine wq_scr (p' := 1034) rfl rfl ⟨by omega, by omega, by omega⟩ ?_
  refine av_wp_seq 4 (pc' := 1038) (lv' := [some (.inr (.inr (.inr 100))), some (.inr (.inr (.inl (some (0))))), some (.inr (.inr (.inl (some (77))))), some (.inl i)]) (st' := [.inl (i + (5)), .inr (.inr (.inr 100)), .inl (f (Int.toNat (i + (4)))), .inl (f (Int.toNat (i + (3)))), .inl (f (Int.toNat (i + (2)))), .inl (f (Int.toNat (i + (1)))), .inr (.inr (.inl (some (0))))]) (h' := h) rfl ?_
  refine wq_scr (p' := 1039) rfl rfl ⟨by omega, by omega, by omega⟩ ?_
  refine wq_cv (p' := 1042) (av_qc (.invokevirtual 103) 117 5 0 7) 7 cd_117 [.inl (f (Int.toNat (i + (5)))), .inl (f (Int.toNat (i + (4)))), .inl (f (Int.toNat (i + (3)))), .inl (f (Int.toNat (i + (2)))), .inl (f (Int.toNat (i + (1))))] (0) 7 [some (.inr (.inr (.inl (some (0))))), some (.inl (f (Int.toNat (i + (1))))), some (.inl (f (Int.toNat (i + (2))))), some (.inl (f (Int.toNat (i + (3))))), some (.inl (f (Int.toNat (i + (4))))), some (.inl (f (Int.toNat (i + (5))))), none] rfl rfl rfl pp_117 rfl rfl rfl (congrArg Prod.fst (ly_k B.1.1.1 0 rfl)) rfl rfl rfl rfl ?_
  refine av_wp_mono (oz_117 B (f (Int.toNat (i + (1)))) (f (Int.toNat (i + (2)))) (f (Int.toNat (i + (3)))) (f (Int.toNat (i + (4)))) (f (Int.toNat (i + (5)))) (hf _) (hf _) (hf _) (hf _) (hf _)) (fun v h1 z => ?_)
  obtain ⟨x, rfl, k77, W⟩ := z
  show av_wp (some (L, f)) cd_L 1042 [some (.inr (.inr (.inr 100))), some (.inr (.inr (.inl (some (0))))), some (.inr (.inr (.inl (some (77))))), some (.inl i)] [.inl x] h1 Q
  refine av_wp_seq 6 (pc' := 1048) (lv' := [some (.inr (.inr (.inr 100))), some (.inr (.inr (.inl (some (0))))), some (.inr (.inr (.inl (some (77))))), some (.inl i)]) (st' := [.inl (i + (1)), .inr (.inr (.inr 100)), .inr (.inr (.inl (some (77))))]) (h' := h1) rfl ?_
  refine wq_scr (p' := 1049) rfl rfl ⟨by omega, by omega, by omega⟩ ?_
  refine av_wp_seq 4 (pc' := 1053) (lv' := [some (.inr (.inr (.inr 100))), some (.inr (.inr (.inl (some (0))))), some (.inr (.inr (.inl (some (77))))), some (.inl i)]) (st' := [.inl (i + (2)), .inr (.inr (.inr 100)), .inl (f (Int.toNat (i + (1)))), .inr (.inr (.inl (some (77))))]) (h' := h1) rfl ?_
  refine wq_scr (p' := 1054) rfl rfl ⟨by omega, by omega, by omega⟩ ?_
  refine av_wp_seq 4 (pc' := 1058) (lv' := [some (.inr (.inr (.inr 100))), some (.inr (.inr (.inl (some (0))))), some (.inr (.inr (.inl (some (77))))), some (.inl i)]) (st' := [.inl (i + (3)), .inr (.inr (.inr 100)), .inl (f (Int.toNat (i + (2)))), .inl (f (Int.toNat (i + (1)))), .inr (.inr (.inl (some (77))))]) (h' := h1) rfl ?_
  refine wq_scr (p' := 1059) rfl rfl ⟨by omega, by omega, by omega⟩ ?_
  refine av_wp_seq 4 (pc' := 1063) (lv' := [some (.inr (.inr (.inr 100))), some (.inr (.inr (.inl (some (0))))), some (.inr (.inr (.inl (some (77))))), some (.inl i)]) (st' := [.inl (i + (4)), .inr (.inr (.inr 100)), .inl (f (Int.toNat (i + (3)))), .inl (f (Int.toNat (i + (2)))), .inl (f (Int.toNat (i + (1)))), .inr (.inr (.inl (some (77))))]) (h' := h1) rfl ?_
  refine wq_scr (p' := 1064) rfl rfl ⟨by omega, by omega, by omega⟩ ?_
  refine av_wp_seq 4 (pc' := 1068) (lv' := [some (.inr (.inr (.inr 100))), some (.inr (.inr (.inl (some (0))))), some (.inr (.inr (.inl (some (77))))), some (.inl i)]) (st' := [.inl (i + (5)), .inr (.inr (.inr 100)), .inl (f (Int.toNat (i + (4)))), .inl (f (Int.toNat (i + (3)))), .inl (f (Int.toNat (i + (2)))), .inl (f (Int.toNat (i + (1)))), .inr (.inr (.inl (some (77))))]) (h' := h1) rfl ?_
  refine wq_scr (p' := 1069) rfl rfl ⟨by omega, by omega, by omega⟩ ?_
  refine wq_cv (p' := 1072) (av_qc (.invokevirtual 106) 207 5 0 8) 6 cd_207 [.inl (f (Int.toNat (i + (5)))), .inl (f (Int.toNat (i + (4)))), .inl (f (Int.toNat (i + (3)))), .inl (f (Int.toNat (i + (2)))), .inl (f (Int.toNat (i + (1))))] (77) 8 [some (.inr (.inr (.inl (some (77))))), some (.inl (f (Int.toNat (i + (1))))), some (.inl (f (Int.toNat (i + (2))))), some (.inl (f (Int.toNat (i + (3))))), some (.inl (f (Int.toNat (i + (4))))), some (.inl (f (Int.toNat (i + (5)))))] rfl rfl rfl pp_207 rfl rfl rfl (congrArg Prod.fst k77) rfl rfl rfl rfl ?_
  refine av_wp_mono W (fun v h2 z => ?_)
  obtain ⟨y, rfl, e, B2, R2⟩ := z
  show av_wp (some (L, f)) cd_L 1072 [some (.inr (.inr (.inr 100))), some (.inr (.inr (.inl (some (0))))), some (.inr (.inr (.inl (some (77))))), some (.inl i)] [.inl y] h2 Q
  refine av_wp_seq 2 (pc' := 1284) (lv' := [some (.inr (.inr (.inr 100))), some (.inr (.inr (.inl (some (0))))), some (.inr (.inr (.inl (some (77))))), some (.inl i)]) (st' := []) (h' := h2) rfl ?_
  exact hk h2 B2 R2
set_option maxRecDepth 100000 in
set_option maxHeartbeats 8000000 in
theorem lo_22 {L : Nat} {f : Nat → Int} (hf : ∀ j, -2147483648 ≤ f j ∧ f j ≤ 2147483647) {i : Int} (hi : 0 ≤ i ∧ i + 6 ≤ (L : Int)) (hL : L ≤ 3072) {h : av_H} (B : BX h) {Q : Option av_V → av_H → Prop} (hk : ∀ h', BX h' → RM h h' → av_wp (some (L, f)) cd_L 1284 [some (.inr (.inr (.inr 100))), some (.inr (.inr (.inl (some (0))))), some (.inr (.inr (.inl (some (77))))), some (.inl i)] [] h' Q) : av_wp (some (L, f)) cd_L 1076 [some (.inr (.inr (.inr 100))), some (.inr (.inr (.inl (some (0))))), some (.inr (.inr (.inl (some (77))))), some (.inl i)] [] h Q := by
  refine av_wp_seq 5 (pc' := 1081) (lv' := [some (.inr (.inr (.inr 100))), some (.inr (.inr (.inl (some (0))))), some (.inr (.inr (.inl (some (77))))), some (.inl i)]) (st' := [.inl (i + (1)), .inr (.inr (.inr 100)), .inr (.inr (.inl (some (0))))]) (h' := h) rfl ?_
  refine wq_scr (p' := 1082) rfl rfl ⟨by omega, by omega, by omega⟩ ?_
  refine av_wp_seq 4 (pc' := 1086) (lv' := [some (.inr (.inr (.inr 100))), some (.inr (.inr (.inl (some (0))))), some (.inr (.inr (.inl (some (77))))), some (.inl i)]) (st' := [.inl (i + (2)), .inr (.inr (.inr 100)), .inl (f (Int.toNat (i + (1)))), .inr (.inr (.inl (some (0))))]) (h' := h) rfl ?_
  refine wq_scr (p' := 1087) rfl rfl ⟨by omega, by omega, by omega⟩ ?_
  refine av_wp_seq 4 (pc' := 1091) (lv' := [some (.inr (.inr (.inr 100))), some (.inr (.inr (.inl (some (0))))), some (.inr (.inr (.inl (some (77))))), some (.inl i)]) (st' := [.inl (i + (3)), .inr (.inr (.inr 100)), .inl (f (Int.toNat (i + (2)))), .inl (f (Int.toNat (i + (1)))), .inr (.inr (.inl (some (0))))]) (h' := h) rfl ?_
  refine wq_scr (p' := 1092) rfl rfl ⟨by omega, by omega, by omega⟩ ?_
  refine av_wp_seq 4 (pc' := 1096) (lv' := [some (.inr (.inr (.inr 100))), some (.inr (.inr (.inl (some (0))))), some (.inr (.inr (.inl (some (77))))), some (.inl i)]) (st' := [.inl (i + (4)), .inr (.inr (.inr 100)), .inl (f (Int.toNat (i + (3)))), .inl (f (Int.toNat (i + (2)))), .inl (f (Int.toNat (i + (1)))), .inr (.inr (.inl (some (0))))]) (h' := h) rfl ?_
  refine wq_scr (p' := 1097) rfl rfl ⟨by omega, by omega, by omega⟩ ?_
  refine av_wp_seq 4 (pc' := 1101) (lv' := [some (.inr (.inr (.inr 100))), some (.inr (.inr (.inl (some (0))))), some (.inr (.inr (.inl (some (77))))), some (.inl i)]) (st' := [.inl (i + (5)), .inr (.inr (.inr 100)), .inl (f (Int.toNat (i + (4)))), .inl (f (Int.toNat (i + (3)))), .inl (f (Int.toNat (i + (2)))), .inl (f (Int.toNat (i + (1)))), .inr (.inr (.inl (some (0))))]) (h' := h) rfl ?_
  refine wq_scr (p' := 1102) rfl rfl ⟨by omega, by omega, by omega⟩ ?_
  refine wq_cv (p' := 1105) (av_qc (.invokevirtual 107) 118 5 0 7) 6 cd_118 [.inl (f (Int.toNat (i + (5)))), .inl (f (Int.toNat (i + (4)))), .inl (f (Int.toNat (i + (3)))), .inl (f (Int.toNat (i + (2)))), .inl (f (Int.toNat (i + (1))))] (0) 7 [some (.inr (.inr (.inl (some (0))))), some (.inl (f (Int.toNat (i + (1))))), some (.inl (f (Int.toNat (i + (2))))), some (.inl (f (Int.toNat (i + (3))))), some (.inl (f (Int.toNat (i + (4))))), some (.inl (f (Int.toNat (i + (5)))))] rfl rfl rfl pp_118 rfl rfl rfl (congrArg Prod.fst (ly_k B.1.1.1 0 rfl)) rfl rfl rfl rfl ?_
  refine av_wp_mono (oz_118 B (f (Int.toNat (i + (1)))) (f (Int.toNat (i + (2)))) (f (Int.toNat (i + (3)))) (f (Int.toNat (i + (4)))) (f (Int.toNat (i + (5)))) (hf _) (hf _) (hf _) (hf _) (hf _)) (fun v h1 z => ?_)
  obtain ⟨x, rfl, k77, W⟩ := z
  show av_wp (some (L, f)) cd_L 1105 [some (.inr (.inr (.inr 100))), some (.inr (.inr (.inl (some (0))))), some (.inr (.inr (.inl (some (77))))), some (.inl i)] [.inl x] h1 Q
  refine av_wp_seq 6 (pc' := 1111) (lv' := [some (.inr (.inr (.inr 100))), some (.inr (.inr (.inl (some (0))))), some (.inr (.inr (.inl (some (77))))), some (.inl i)]) (st' := [.inl (i + (1)), .inr (.inr (.inr 100)), .inr (.inr (.inl (some (77))))]) (h' := h1) rfl ?_
  refine wq_scr (p' := 1112) rfl rfl ⟨by omega, by omega, by omega⟩ ?_
  refine av_wp_seq 4 (pc' := 1116) (lv' := [some (.inr (.inr (.inr 100))), some (.inr (.inr (.inl (some (0))))), some (.inr (.inr (.inl (some (77))))), some (.inl i)]) (st' := [.inl (i + (2)), .inr (.inr (.inr 100)), .inl (f (Int.toNat (i + (1)))), .inr (.inr (.inl (some (77))))]) (h' := h1) rfl ?_
  refine wq_scr (p' := 1117) rfl rfl ⟨by omega, by omega, by omega⟩ ?_
  refine av_wp_seq 4 (pc' := 1121) (lv' := [some (.inr (.inr (.inr 100))), some (.inr (.inr (.inl (some (0))))), some (.inr (.inr (.inl (some (77))))), some (.inl i)]) (st' := [.inl (i + (3)), .inr (.inr (.inr 100)), .inl (f (Int.toNat (i + (2)))), .inl (f (Int.toNat (i + (1)))), .inr (.inr (.inl (some (77))))]) (h' := h1) rfl ?_
  refine wq_scr (p' := 1122) rfl rfl ⟨by omega, by omega, by omega⟩ ?_
  refine av_wp_seq 4 (pc' := 1126) (lv' := [some (.inr (.inr (.inr 100))), some (.inr (.inr (.inl (some (0))))), some (.inr (.inr (.inl (some (77))))), some (.inl i)]) (st' := [.inl (i + (4)), .inr (.inr (.inr 100)), .inl (f (Int.toNat (i + (3)))), .inl (f (Int.toNat (i + (2)))), .inl (f (Int.toNat (i + (1)))), .inr (.inr (.inl (some (77))))]) (h' := h1) rfl ?_
  refine wq_scr (p' := 1127) rfl rfl ⟨by omega, by omega, by omega⟩ ?_
  refine av_wp_seq 4 (pc' := 1131) (lv' := [some (.inr (.inr (.inr 100))), some (.inr (.inr (.inl (some (0))))), some (.inr (.inr (.inl (some (77))))), some (.inl i)]) (st' := [.inl (i + (5)), .inr (.inr (.inr 100)), .inl (f (Int.toNat (i + (4)))), .inl (f (Int.toNat (i + (3)))), .inl (f (Int.toNat (i + (2)))), .inl (f (Int.toNat (i + (1)))), .inr (.inr (.inl (some (77))))]) (h' := h1) rfl ?_
  refine wq_scr (p' := 1132) rfl rfl ⟨by omega, by omega, by omega⟩ ?_
  refine wq_cv (p' := 1135) (av_qc (.invokevirtual 110) 208 5 0 8) 7 cd_208 [.inl (f (Int.toNat (i + (5)))), .inl (f (Int.toNat (i + (4)))), .inl (f (Int.toNat (i + (3)))), .inl (f (Int.toNat (i + (2)))), .inl (f (Int.toNat (i + (1))))] (77) 8 [some (.inr (.inr (.inl (some (77))))), some (.inl (f (Int.toNat (i + (1))))), some (.inl (f (Int.toNat (i + (2))))), some (.inl (f (Int.toNat (i + (3))))), some (.inl (f (Int.toNat (i + (4))))), some (.inl (f (Int.toNat (i + (5))))), none] rfl rfl rfl pp_208 rfl rfl rfl (congrArg Prod.fst k77) rfl rfl rfl rfl ?_
  refine av_wp_mono W (fun v h2 z => ?_)
  obtain ⟨y, rfl, e, B2, R2⟩ := z
  show av_wp (some (L, f)) cd_L 1135 [some (.inr (.inr (.inr 100))), some (.inr (.inr (.inl (some (0))))), some (.inr (.inr (.inl (some (77))))), some (.inl i)] [.inl y] h2 Q
  refine av_wp_seq 2 (pc' := 1284) (lv' := [some (.inr (.inr (.inr 100))), some (.inr (.inr (.inl (some (0))))), some (.inr (.inr (.inl (some (77))))), some (.inl i)]) (st' := []) (h' := h2) rfl ?_
  exact hk h2 B2 R2
set_option maxRecDepth 100000 in
set_option maxHeartbeats 8000000 in
theorem lo_23 {L : Nat} {f : Nat → Int} (hf : ∀ j, -2147483648 ≤ f j ∧ f j ≤ 2147483647) {i : Int} (hi : 0 ≤ i ∧ i + 6 ≤ (L : Int)) (hL : L ≤ 3072) {h : av_H} (B : BX h) {Q : Option av_V → av_H → Prop} (hk : ∀ h', BX h' → RM h h' → av_wp (some (L, f)) cd_L 1284 [some (.inr (.inr (.inr 100))), some (.inr (.inr (.inl (some (0))))), some (.inr (.inr (.inl (some (77))))), some (.inl i)] [] h' Q) : av_wp (some (L, f)) cd_L 1139 [some (.inr (.inr (.inr 100))), some (.inr (.inr (.inl (some (0))))), some (.inr (.inr (.inl (some (77))))), some (.inl i)] [] h Q := by
  refine av_wp_seq 5 (pc' := 1144) (lv' := [some (.inr (.inr (.inr 100))), some (.inr (.inr (.inl (some (0))))), some (.inr (.inr (.inl (some (77))))), some (.inl i)]) (st' := [.inl (i + (1)), .inr (.inr (.inr 100)), .inr (.inr (.inl (some (0))))]) (h' := h) rfl ?_
  refine wq_scr (p' := 1145) rfl rfl ⟨by omega, by omega, by omega⟩ ?_
  refine av_wp_seq 4 (pc' := 1149) (lv' := [some (.inr (.inr (.inr 100))), some (.inr (.inr (.inl (some (0))))), some (.inr (.inr (.inl (some (77))))), some (.inl i)]) (st' := [.inl (i + (2)), .inr (.inr (.inr 100)), .inl (f (Int.toNat (i + (1)))), .inr (.inr (.inl (some (0))))]) (h' := h) rfl ?_
  refine wq_scr (p' := 1150) rfl rfl ⟨by omega, by omega, by omega⟩ ?_
  refine av_wp_seq 4 (pc' := 1154) (lv' := [some (.inr (.inr (.inr 100))), some (.inr (.inr (.inl (some (0))))), some (.inr (.inr (.inl (some (77))))), some (.inl i)]) (st' := [.inl (i + (3)), .inr (.inr (.inr 100)), .inl (f (Int.toNat (i + (2)))), .inl (f (Int.toNat (i + (1)))), .inr (.inr (.inl (some (0))))]) (h' := h) rfl ?_
  refine wq_scr (p' := 1155) rfl rfl ⟨by omega, by omega, by omega⟩ ?_
  refine wq_cv (p' := 1158) (av_qc (.invokevirtual 111) 120 3 0 7) 5 cd_120 [.inl (f (Int.toNat (i + (3)))), .inl (f (Int.toNat (i + (2)))), .inl (f (Int.toNat (i + (1))))] (0) 7 [some (.inr (.inr (.inl (some (0))))), some (.inl (f (Int.toNat (i + (1))))), some (.inl (f (Int.toNat (i + (2))))), some (.inl (f (Int.toNat (i + (3))))), none] rfl rfl rfl pp_120 rfl rfl rfl (congrArg Prod.fst (ly_k B.1.1.1 0 rfl)) rfl rfl rfl rfl ?_
  refine av_wp_mono (oz_120 B (f (Int.toNat (i + (1)))) (f (Int.toNat (i + (2)))) (f (Int.toNat (i + (3)))) (hf _) (hf _) (hf _)) (fun v h1 z => ?_)
  obtain ⟨x, rfl, k77, W⟩ := z
  show av_wp (some (L, f)) cd_L 1158 [some (.inr (.inr (.inr 100))), some (.inr (.inr (.inl (some (0))))), some (.inr (.inr (.inl (some (77))))), some (.inl i)] [.inl x] h1 Q
  refine av_wp_seq 6 (pc' := 1164) (lv' := [some (.inr (.inr (.inr 100))), some (.inr (.inr (.inl (some (0))))), some (.inr (.inr (.inl (some (77))))), some (.inl i)]) (st' := [.inl (i + (1)), .inr (.inr (.inr 100)), .inr (.inr (.inl (some (77))))]) (h' := h1) rfl ?_
  refine wq_scr (p' := 1165) rfl rfl ⟨by omega, by omega, by omega⟩ ?_
  refine av_wp_seq 4 (pc' := 1169) (lv' := [some (.inr (.inr (.inr 100))), some (.inr (.inr (.inl (some (0))))), some (.inr (.inr (.inl (some (77))))), some (.inl i)]) (st' := [.inl (i + (2)), .inr (.inr (.inr 100)), .inl (f (Int.toNat (i + (1)))), .inr (.inr (.inl (some (77))))]) (h' := h1) rfl ?_
  refine wq_scr (p' := 1170) rfl rfl ⟨by omega, by omega, by omega⟩ ?_
  refine av_wp_seq 4 (pc' := 1174) (lv' := [some (.inr (.inr (.inr 100))), some (.inr (.inr (.inl (some (0))))), some (.inr (.inr (.inl (some (77))))), some (.inl i)]) (st' := [.inl (i + (3)), .inr (.inr (.inr 100)), .inl (f (Int.toNat (i + (2)))), .inl (f (Int.toNat (i + (1)))), .inr (.inr (.inl (some (77))))]) (h' := h1) rfl ?_
  refine wq_scr (p' := 1175) rfl rfl ⟨by omega, by omega, by omega⟩ ?_
  refine wq_cv (p' := 1178) (av_qc (.invokevirtual 114) 211 3 0 8) 4 cd_211 [.inl (f (Int.toNat (i + (3)))), .inl (f (Int.toNat (i + (2)))), .inl (f (Int.toNat (i + (1))))] (77) 8 [some (.inr (.inr (.inl (some (77))))), some (.inl (f (Int.toNat (i + (1))))), some (.inl (f (Int.toNat (i + (2))))), some (.inl (f (Int.toNat (i + (3)))))] rfl rfl rfl pp_211 rfl rfl rfl (congrArg Prod.fst k77) rfl rfl rfl rfl ?_
  refine av_wp_mono W (fun v h2 z => ?_)
  obtain ⟨y, rfl, e, B2, R2⟩ := z
  show av_wp (some (L, f)) cd_L 1178 [some (.inr (.inr (.inr 100))), some (.inr (.inr (.inl (some (0))))), some (.inr (.inr (.inl (some (77))))), some (.inl i)] [.inl y] h2 Q
  refine av_wp_seq 2 (pc' := 1284) (lv' := [some (.inr (.inr (.inr 100))), some (.inr (.inr (.inl (some (0))))), some (.inr (.inr (.inl (some (77))))), some (.inl i)]) (st' := []) (h' := h2) rfl ?_
  exact hk h2 B2 R2
set_option maxRecDepth 100000 in
set_option maxHeartbeats 8000000 in
theorem lo_24 {L : Nat} {f : Nat → Int} (hf : ∀ j, -2147483648 ≤ f j ∧ f j ≤ 2147483647) {i : Int} (hi : 0 ≤ i ∧ i + 6 ≤ (L : Int)) (hL : L ≤ 3072) {h : av_H} (B : BX h) {Q : Option av_V → av_H → Prop} (hk : ∀ h', BX h' → RM h h' → av_wp (some (L, f)) cd_L 1284 [some (.inr (.inr (.inr 100))), some (.inr (.inr (.inl (some (0))))), some (.inr (.inr (.inl (some (77))))), some (.inl i)] [] h' Q) : av_wp (some (L, f)) cd_L 1182 [some (.inr (.inr (.inr 100))), some (.inr (.inr (.inl (some (0))))), some (.inr (.inr (.inl (some (77))))), some (.inl i)] [] h Q := by
  refine av_wp_seq 5 (pc' := 1187) (lv' := [some (.inr (.inr (.inr 100))), some (.inr (.inr (.inl (some (0))))), some (.inr (.inr (.inl (some (77))))), some (.inl i)]) (st' := [.inl (i + (1)), .inr (.inr (.inr 100)), .inr (.inr (.inl (some (0))))]) (h' := h) rfl ?_
  refine wq_scr (p' := 1188) rfl rfl ⟨by omega, by omega, by omega⟩ ?_
  refine av_wp_seq 4 (pc' := 1192) (lv' := [some (.inr (.inr (.inr 100))), some (.inr (.inr (.inl (some (0))))), some (.inr (.inr (.inl (some (77))))), some (.inl i)]) (st' := [.inl (i + (2)), .inr (.inr (.inr 100)), .inl (f (Int.toNat (i + (1)))), .inr (.inr (.inl (some (0))))]) (h' := h) rfl ?_
  refine wq_scr (p' := 1193) rfl rfl ⟨by omega, by omega, by omega⟩ ?_
  refine av_wp_seq 4 (pc' := 1197) (lv' := [some (.inr (.inr (.inr 100))), some (.inr (.inr (.inl (some (0))))), some (.inr (.inr (.inl (some (77))))), some (.inl i)]) (st' := [.inl (i + (3)), .inr (.inr (.inr 100)), .inl (f (Int.toNat (i + (2)))), .inl (f (Int.toNat (i + (1)))), .inr (.inr (.inl (some (0))))]) (h' := h) rfl ?_
  refine wq_scr (p' := 1198) rfl rfl ⟨by omega, by omega, by omega⟩ ?_
  refine wq_cv (p' := 1201) (av_qc (.invokevirtual 115) 121 3 0 7) 5 cd_121 [.inl (f (Int.toNat (i + (3)))), .inl (f (Int.toNat (i + (2)))), .inl (f (Int.toNat (i + (1))))] (0) 7 [some (.inr (.inr (.inl (some (0))))), some (.inl (f (Int.toNat (i + (1))))), some (.inl (f (Int.toNat (i + (2))))), some (.inl (f (Int.toNat (i + (3))))), none] rfl rfl rfl pp_121 rfl rfl rfl (congrArg Prod.fst (ly_k B.1.1.1 0 rfl)) rfl rfl rfl rfl ?_
  refine av_wp_mono (oz_121 B (f (Int.toNat (i + (1)))) (f (Int.toNat (i + (2)))) (f (Int.toNat (i + (3)))) (hf _) (hf _) (hf _)) (fun v h1 z => ?_)
  obtain ⟨x, rfl, k77, W⟩ := z
  show av_wp (some (L, f)) cd_L 1201 [some (.inr (.inr (.inr 100))), some (.inr (.inr (.inl (some (0))))), some (.inr (.inr (.inl (some (77))))), some (.inl i)] [.inl x] h1 Q
  refine av_wp_seq 6 (pc' := 1207) (lv' := [some (.inr (.inr (.inr 100))), some (.inr (.inr (.inl (some (0))))), some (.inr (.inr (.inl (some (77))))), some (.inl i)]) (st' := [.inl (i + (1)), .inr (.inr (.inr 100)), .inr (.inr (.inl (some (77))))]) (h' := h1) rfl ?_
  refine wq_scr (p' := 1208) rfl rfl ⟨by omega, by omega, by omega⟩ ?_
  refine av_wp_seq 4 (pc' := 1212) (lv' := [some (.inr (.inr (.inr 100))), some (.inr (.inr (.inl (some (0))))), some (.inr (.inr (.inl (some (77))))), some (.inl i)]) (st' := [.inl (i + (2)), .inr (.inr (.inr 100)), .inl (f (Int.toNat (i + (1)))), .inr (.inr (.inl (some (77))))]) (h' := h1) rfl ?_
  refine wq_scr (p' := 1213) rfl rfl ⟨by omega, by omega, by omega⟩ ?_
  refine av_wp_seq 4 (pc' := 1217) (lv' := [some (.inr (.inr (.inr 100))), some (.inr (.inr (.inl (some (0))))), some (.inr (.inr (.inl (some (77))))), some (.inl i)]) (st' := [.inl (i + (3)), .inr (.inr (.inr 100)), .inl (f (Int.toNat (i + (2)))), .inl (f (Int.toNat (i + (1)))), .inr (.inr (.inl (some (77))))]) (h' := h1) rfl ?_
  refine wq_scr (p' := 1218) rfl rfl ⟨by omega, by omega, by omega⟩ ?_
  refine wq_cv (p' := 1221) (av_qc (.invokevirtual 118) 212 3 0 8) 5 cd_212 [.inl (f (Int.toNat (i + (3)))), .inl (f (Int.toNat (i + (2)))), .inl (f (Int.toNat (i + (1))))] (77) 8 [some (.inr (.inr (.inl (some (77))))), some (.inl (f (Int.toNat (i + (1))))), some (.inl (f (Int.toNat (i + (2))))), some (.inl (f (Int.toNat (i + (3))))), none] rfl rfl rfl pp_212 rfl rfl rfl (congrArg Prod.fst k77) rfl rfl rfl rfl ?_
  refine av_wp_mono W (fun v h2 z => ?_)
  obtain ⟨y, rfl, e, B2, R2⟩ := z
  show av_wp (some (L, f)) cd_L 1221 [some (.inr (.inr (.inr 100))), some (.inr (.inr (.inl (some (0))))), some (.inr (.inr (.inl (some (77))))), some (.inl i)] [.inl y] h2 Q
  refine av_wp_seq 2 (pc' := 1284) (lv' := [some (.inr (.inr (.inr 100))), some (.inr (.inr (.inl (some (0))))), some (.inr (.inr (.inl (some (77))))), some (.inl i)]) (st' := []) (h' := h2) rfl ?_
  exact hk h2 B2 R2
set_option maxRecDepth 100000 in
set_option maxHeartbeats 8000000 in
theorem lo_25 {L : Nat} {f : Nat → Int} (hf : ∀ j, -2147483648 ≤ f j ∧ f j ≤ 2147483647) {i : Int} (hi : 0 ≤ i ∧ i + 6 ≤ (L : Int)) (hL : L ≤ 3072) {h : av_H} (B : BX h) {Q : Option av_V → av_H → Prop} (hk : ∀ h', BX h' → RM h h' → av_wp (some (L, f)) cd_L 1284 [some (.inr (.inr (.inr 100))), some (.inr (.inr (.inl (some (0))))), some (.inr (.inr (.inl (some (77))))), some (.inl i)] [] h' Q) : av_wp (some (L, f)) cd_L 1225 [some (.inr (.inr (.inr 100))), some (.inr (.inr (.inl (some (0))))), some (.inr (.inr (.inl (some (77))))), some (.inl i)] [] h Q := by
  refine av_wp_seq 1 (pc' := 1226) (lv' := [some (.inr (.inr (.inr 100))), some (.inr (.inr (.inl (some (0))))), some (.inr (.inr (.inl (some (77))))), some (.inl i)]) (st' := [.inr (.inr (.inl (some (0))))]) (h' := h) rfl ?_
  refine wq_cv (p' := 1229) (av_qc (.invokevirtual 119) 123 0 0 7) 2 cd_123 [] (0) 7 [some (.inr (.inr (.inl (some (0))))), none] rfl rfl rfl pp_123 rfl rfl rfl (congrArg Prod.fst (ly_k B.1.1.1 0 rfl)) rfl rfl rfl rfl ?_
  refine av_wp_mono (oz_image B  ) (fun v h1 z => ?_)
  obtain ⟨x, rfl, k77, W⟩ := z
  show av_wp (some (L, f)) cd_L 1229 [some (.inr (.inr (.inr 100))), some (.inr (.inr (.inl (some (0))))), some (.inr (.inr (.inl (some (77))))), some (.inl i)] [.inl x] h1 Q
  refine av_wp_seq 2 (pc' := 1231) (lv' := [some (.inr (.inr (.inr 100))), some (.inr (.inr (.inl (some (0))))), some (.inr (.inr (.inl (some (77))))), some (.inl i)]) (st' := [.inr (.inr (.inl (some (77))))]) (h' := h1) rfl ?_
  refine wq_cv (p' := 1234) (av_qc (.invokevirtual 122) 214 0 0 8) 1 cd_214 [] (77) 8 [some (.inr (.inr (.inl (some (77)))))] rfl rfl rfl pp_214 rfl rfl rfl (congrArg Prod.fst k77) rfl rfl rfl rfl ?_
  refine av_wp_mono W (fun v h2 z => ?_)
  obtain ⟨y, rfl, e, B2, R2⟩ := z
  show av_wp (some (L, f)) cd_L 1234 [some (.inr (.inr (.inr 100))), some (.inr (.inr (.inl (some (0))))), some (.inr (.inr (.inl (some (77))))), some (.inl i)] [.inl y] h2 Q
  refine av_wp_seq 2 (pc' := 1284) (lv' := [some (.inr (.inr (.inr 100))), some (.inr (.inr (.inl (some (0))))), some (.inr (.inr (.inl (some (77))))), some (.inl i)]) (st' := []) (h' := h2) rfl ?_
  exact hk h2 B2 R2
set_option maxRecDepth 100000 in
set_option maxHeartbeats 8000000 in
theorem lo_26 {L : Nat} {f : Nat → Int} (hf : ∀ j, -2147483648 ≤ f j ∧ f j ≤ 2147483647) {i : Int} (hi : 0 ≤ i ∧ i + 6 ≤ (L : Int)) (hL : L ≤ 3072) {h : av_H} (B : BX h) {Q : Option av_V → av_H → Prop} (hk : ∀ h', BX h' → RM h h' → av_wp (some (L, f)) cd_L 1284 [some (.inr (.inr (.inr 100))), some (.inr (.inr (.inl (some (0))))), some (.inr (.inr (.inl (some (77))))), some (.inl i)] [] h' Q) : av_wp (some (L, f)) cd_L 1238 [some (.inr (.inr (.inr 100))), some (.inr (.inr (.inl (some (0))))), some (.inr (.inr (.inl (some (77))))), some (.inl i)] [] h Q := by
  refine av_wp_seq 5 (pc' := 1243) (lv' := [some (.inr (.inr (.inr 100))), some (.inr (.inr (.inl (some (0))))), some (.inr (.inr (.inl (some (77))))), some (.inl i)]) (st' := [.inl (i + (1)), .inr (.inr (.inr 100)), .inr (.inr (.inl (some (0))))]) (h' := h) rfl ?_
  refine wq_scr (p' := 1244) rfl rfl ⟨by omega, by omega, by omega⟩ ?_
  refine wq_cv (p' := 1247) (av_qc (.invokevirtual 123) 124 1 0 7) 2 cd_124 [.inl (f (Int.toNat (i + (1))))] (0) 7 [some (.inr (.inr (.inl (some (0))))), some (.inl (f (Int.toNat (i + (1)))))] rfl rfl rfl pp_124 rfl rfl rfl (congrArg Prod.fst (ly_k B.1.1.1 0 rfl)) rfl rfl rfl rfl ?_
  refine av_wp_mono (oz_back B (f (Int.toNat (i + (1)))) (hf _)) (fun v h1 z => ?_)
  obtain ⟨x, rfl, k77, W⟩ := z
  show av_wp (some (L, f)) cd_L 1247 [some (.inr (.inr (.inr 100))), some (.inr (.inr (.inl (some (0))))), some (.inr (.inr (.inl (some (77))))), some (.inl i)] [.inl x] h1 Q
  refine av_wp_seq 6 (pc' := 1253) (lv' := [some (.inr (.inr (.inr 100))), some (.inr (.inr (.inl (some (0))))), some (.inr (.inr (.inl (some (77))))), some (.inl i)]) (st' := [.inl (i + (1)), .inr (.inr (.inr 100)), .inr (.inr (.inl (some (77))))]) (h' := h1) rfl ?_
  refine wq_scr (p' := 1254) rfl rfl ⟨by omega, by omega, by omega⟩ ?_
  refine wq_cv (p' := 1257) (av_qc (.invokevirtual 127) 215 1 0 8) 2 cd_215 [.inl (f (Int.toNat (i + (1))))] (77) 8 [some (.inr (.inr (.inl (some (77))))), some (.inl (f (Int.toNat (i + (1)))))] rfl rfl rfl pp_215 rfl rfl rfl (congrArg Prod.fst k77) rfl rfl rfl rfl ?_
  refine av_wp_mono W (fun v h2 z => ?_)
  obtain ⟨y, rfl, e, B2, R2⟩ := z
  show av_wp (some (L, f)) cd_L 1257 [some (.inr (.inr (.inr 100))), some (.inr (.inr (.inl (some (0))))), some (.inr (.inr (.inl (some (77))))), some (.inl i)] [.inl y] h2 Q
  refine av_wp_seq 2 (pc' := 1284) (lv' := [some (.inr (.inr (.inr 100))), some (.inr (.inr (.inl (some (0))))), some (.inr (.inr (.inl (some (77))))), some (.inl i)]) (st' := []) (h' := h2) rfl ?_
  exact hk h2 B2 R2
set_option maxRecDepth 100000 in
set_option maxHeartbeats 8000000 in
theorem lo_27 {L : Nat} {f : Nat → Int} (hf : ∀ j, -2147483648 ≤ f j ∧ f j ≤ 2147483647) {i : Int} (hi : 0 ≤ i ∧ i + 6 ≤ (L : Int)) (hL : L ≤ 3072) {h : av_H} (B : BX h) {Q : Option av_V → av_H → Prop} (hk : ∀ h', BX h' → RM h h' → av_wp (some (L, f)) cd_L 1284 [some (.inr (.inr (.inr 100))), some (.inr (.inr (.inl (some (0))))), some (.inr (.inr (.inl (some (77))))), some (.inl i)] [] h' Q) : av_wp (some (L, f)) cd_L 1261 [some (.inr (.inr (.inr 100))), some (.inr (.inr (.inl (some (0))))), some (.inr (.inr (.inl (some (77))))), some (.inl i)] [] h Q := by
  refine av_wp_seq 5 (pc' := 1266) (lv' := [some (.inr (.inr (.inr 100))), some (.inr (.inr (.inl (some (0))))), some (.inr (.inr (.inl (some (77))))), some (.inl i)]) (st' := [.inl (i + (1)), .inr (.inr (.inr 100)), .inr (.inr (.inl (some (0))))]) (h' := h) rfl ?_
  refine wq_scr (p' := 1267) rfl rfl ⟨by omega, by omega, by omega⟩ ?_
  refine wq_cv (p' := 1270) (av_qc (.invokevirtual 128) 125 1 0 7) 2 cd_125 [.inl (f (Int.toNat (i + (1))))] (0) 7 [some (.inr (.inr (.inl (some (0))))), some (.inl (f (Int.toNat (i + (1)))))] rfl rfl rfl pp_125 rfl rfl rfl (congrArg Prod.fst (ly_k B.1.1.1 0 rfl)) rfl rfl rfl rfl ?_
  refine av_wp_mono (oz_125 B (f (Int.toNat (i + (1)))) (hf _)) (fun v h1 z => ?_)
  obtain ⟨x, rfl, k77, W⟩ := z
  show av_wp (some (L, f)) cd_L 1270 [some (.inr (.inr (.inr 100))), some (.inr (.inr (.inl (some (0))))), some (.inr (.inr (.inl (some (77))))), some (.inl i)] [.inl x] h1 Q
  refine av_wp_seq 6 (pc' := 1276) (lv' := [some (.inr (.inr (.inr 100))), some (.inr (.inr (.inl (some (0))))), some (.inr (.inr (.inl (some (77))))), some (.inl i)]) (st' := [.inl (i + (1)), .inr (.inr (.inr 100)), .inr (.inr (.inl (some (77))))]) (h' := h1) rfl ?_
  refine wq_scr (p' := 1277) rfl rfl ⟨by omega, by omega, by omega⟩ ?_
  refine wq_cv (p' := 1280) (av_qc (.invokevirtual 131) 217 1 0 8) 2 cd_217 [.inl (f (Int.toNat (i + (1))))] (77) 8 [some (.inr (.inr (.inl (some (77))))), some (.inl (f (Int.toNat (i + (1)))))] rfl rfl rfl pp_217 rfl rfl rfl (congrArg Prod.fst k77) rfl rfl rfl rfl ?_
  refine av_wp_mono W (fun v h2 z => ?_)
  obtain ⟨y, rfl, e, B2, R2⟩ := z
  show av_wp (some (L, f)) cd_L 1280 [some (.inr (.inr (.inr 100))), some (.inr (.inr (.inl (some (0))))), some (.inr (.inr (.inl (some (77))))), some (.inl i)] [.inl y] h2 Q
  refine av_wp_seq 2 (pc' := 1284) (lv' := [some (.inr (.inr (.inr 100))), some (.inr (.inr (.inl (some (0))))), some (.inr (.inr (.inl (some (77))))), some (.inl i)]) (st' := []) (h' := h2) rfl ?_
  exact hk h2 B2 R2
set_option maxRecDepth 100000 in
set_option maxHeartbeats 8000000 in
theorem lo_all {L : Nat} {f : Nat → Int} (hf : ∀ j, -2147483648 ≤ f j ∧ f j ≤ 2147483647) (hL : L ≤ 3072) : ∀ (m k : Nat) (h : av_H), 600 - k = m → BX h → 6 * k ≤ L + 6 → h.1 ≤ 122 + 20 * k → h.2.1 ≤ 60000 + 600 * k → av_wp (some (L, f)) cd_L 18 [some (.inr (.inr (.inr 100))), some (.inr (.inr (.inl (some (0))))), some (.inr (.inr (.inl (some (77))))), some (.inl ((6 * k : Nat) : Int))] [] h (fun v h' => v = some (.inl 1) ∧ h'.1 ≤ 600000 ∧ h'.2.1 ≤ 7302250) := by
  intro m
  induction m with
  | zero =>
    intro k h hm B h6 r1 r2
    exfalso
    omega
  | succ m ih =>
    intro k h hm B h6 r1 r2
    refine av_wp_seq 5 (pc' := 24) (lv' := [some (.inr (.inr (.inr 100))), some (.inr (.inr (.inl (some (0))))), some (.inr (.inr (.inl (some (77))))), some (.inl ((6 * k : Nat) : Int))]) (st' := [.inl ((L : Int) - (6)), .inl ((6 * k : Nat) : Int)]) (h' := h) rfl ?_
    refine wq_k2 (p' := 27) rfl rfl ⟨by omega, by omega⟩ ⟨by omega, by omega⟩ (fun c1 => ?_) (fun c2 => ?_)
    · refine av_wp_seq 1 (pc' := 1291) (lv' := [some (.inr (.inr (.inr 100))), some (.inr (.inr (.inl (some (0))))), some (.inr (.inr (.inl (some (77))))), some (.inl ((6 * k : Nat) : Int))]) (st' := [.inl (1)]) (h' := h) rfl ?_
      exact wq_rb rfl (Or.inr rfl) ⟨rfl, by omega, by omega⟩
    · have c2 : ((6 * k : Nat) : Int) ≤ (L : Int) - (6) := c2
      have nx : ∀ h', BX h' → RM h h' → av_wp (some (L, f)) cd_L 1284 [some (.inr (.inr (.inr 100))), some (.inr (.inr (.inl (some (0))))), some (.inr (.inr (.inl (some (77))))), some (.inl ((6 * k : Nat) : Int))] [] h' (fun v h' => v = some (.inl 1) ∧ h'.1 ≤ 600000 ∧ h'.2.1 ≤ 7302250) := fun h' B' R' => by
        refine av_wp_seq 2 (pc' := 18) (lv' := [some (.inr (.inr (.inr 100))), some (.inr (.inr (.inl (some (0))))), some (.inr (.inr (.inl (some (77))))), some (.inl (((6 * k : Nat) : Int) + (6)))]) (st' := []) (h' := h') rfl ?_
        rw [show ((6 * k : Nat) : Int) + (6) = ((6 * (k + 1) : Nat) : Int) by omega]
        exact ih (k + 1) h' (by omega) B' (by omega) (by have := R'.1; omega) (by have := R'.2; omega)
      refine av_wp_seq 2 (pc' := 29) (lv' := [some (.inr (.inr (.inr 100))), some (.inr (.inr (.inl (some (0))))), some (.inr (.inr (.inl (some (77))))), some (.inl ((6 * k : Nat) : Int))]) (st' := [.inl ((6 * k : Nat) : Int), .inr (.inr (.inr 100))]) (h' := h) rfl ?_
      refine wq_scr (p' := 30) rfl rfl ⟨by omega, by omega, by omega⟩ ?_
      refine av_wp_seq 2 (pc' := 33) (lv' := [some (.inr (.inr (.inr 100))), some (.inr (.inr (.inl (some (0))))), some (.inr (.inr (.inl (some (77))))), some (.inl ((6 * k : Nat) : Int))]) (st' := [.inl (av_and (f (Int.toNat ((6 * k : Nat) : Int))) (31))]) (h' := h) rfl ?_
      obtain ⟨c, hc, e⟩ := av_and31 (f (Int.toNat ((6 * k : Nat) : Int)))
      rw [e]
      clear e
      match c, hc with
      | 0, _ => exact wq_tc (c := 0) rfl rfl rfl (lo_0 hf ⟨by omega, by omega⟩ hL B nx)
      | 1, _ => exact wq_tc (c := 1) rfl rfl rfl (lo_1 hf ⟨by omega, by omega⟩ hL B nx)
      | 2, _ => exact wq_tc (c := 2) rfl rfl rfl (lo_2 hf ⟨by omega, by omega⟩ hL B nx)
      | 3, _ => exact wq_tc (c := 3) rfl rfl rfl (lo_3 hf ⟨by omega, by omega⟩ hL B nx)
      | 4, _ => exact wq_tc (c := 4) rfl rfl rfl (lo_4 hf ⟨by omega, by omega⟩ hL B nx)
      | 5, _ => exact wq_tc (c := 5) rfl rfl rfl (lo_5 hf ⟨by omega, by omega⟩ hL B nx)
      | 6, _ => exact wq_tc (c := 6) rfl rfl rfl (lo_6 hf ⟨by omega, by omega⟩ hL B nx)
      | 7, _ => exact wq_tc (c := 7) rfl rfl rfl (lo_7 hf ⟨by omega, by omega⟩ hL B nx)
      | 8, _ => exact wq_tc (c := 8) rfl rfl rfl (lo_8 hf ⟨by omega, by omega⟩ hL B nx)
      | 9, _ => exact wq_tc (c := 9) rfl rfl rfl (lo_9 hf ⟨by omega, by omega⟩ hL B nx)
      | 10, _ => exact wq_tc (c := 10) rfl rfl rfl (lo_10 hf ⟨by omega, by omega⟩ hL B nx)
      | 11, _ => exact wq_tc (c := 11) rfl rfl rfl (lo_11 hf ⟨by omega, by omega⟩ hL B nx)
      | 12, _ => exact wq_tc (c := 12) rfl rfl rfl (lo_12 hf ⟨by omega, by omega⟩ hL B nx)
      | 13, _ => exact wq_tc (c := 13) rfl rfl rfl (lo_13 hf ⟨by omega, by omega⟩ hL B nx)
      | 14, _ => exact wq_tc (c := 14) rfl rfl rfl (lo_14 hf ⟨by omega, by omega⟩ hL B nx)
      | 15, _ => exact wq_tc (c := 15) rfl rfl rfl (lo_15 hf ⟨by omega, by omega⟩ hL B nx)
      | 16, _ => exact wq_tc (c := 16) rfl rfl rfl (lo_16 hf ⟨by omega, by omega⟩ hL B nx)
      | 17, _ => exact wq_tc (c := 17) rfl rfl rfl (lo_17 hf ⟨by omega, by omega⟩ hL B nx)
      | 18, _ => exact wq_tc (c := 18) rfl rfl rfl (lo_18 hf ⟨by omega, by omega⟩ hL B nx)
      | 19, _ => exact wq_tc (c := 19) rfl rfl rfl (lo_19 hf ⟨by omega, by omega⟩ hL B nx)
      | 20, _ => exact wq_tc (c := 20) rfl rfl rfl (lo_20 hf ⟨by omega, by omega⟩ hL B nx)
      | 21, _ => exact wq_tc (c := 21) rfl rfl rfl (lo_21 hf ⟨by omega, by omega⟩ hL B nx)
      | 22, _ => exact wq_tc (c := 22) rfl rfl rfl (lo_22 hf ⟨by omega, by omega⟩ hL B nx)
      | 23, _ => exact wq_tc (c := 23) rfl rfl rfl (lo_23 hf ⟨by omega, by omega⟩ hL B nx)
      | 24, _ => exact wq_tc (c := 24) rfl rfl rfl (lo_24 hf ⟨by omega, by omega⟩ hL B nx)
      | 25, _ => exact wq_tc (c := 25) rfl rfl rfl (lo_25 hf ⟨by omega, by omega⟩ hL B nx)
      | 26, _ => exact wq_tc (c := 26) rfl rfl rfl (lo_26 hf ⟨by omega, by omega⟩ hL B nx)
      | 27, _ => exact wq_tc (c := 27) rfl rfl rfl (lo_27 hf ⟨by omega, by omega⟩ hL B nx)
      | n + 28, hn => exact wq_td rfl ⟨by omega, by omega⟩ (Or.inr (by omega)) rfl (nx h B (RM_0 rfl rfl))

