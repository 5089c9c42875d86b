set_option maxRecDepth 100000 in
set_option maxHeartbeats 8000000 in
theorem cL_15_ok : ∀ (pc : Nat) (x : av_E), cL_15.lookup pc = some x → cd_L.lookup pc = some x := av_lks (by decide +kernel)
set_option maxRecDepth 100000 in
set_option maxHeartbeats 8000000 in
theorem lo_15 {L : Nat} {f : Nat → Int} (hf : ∀ j, -2147483648 ≤ f j ∧ f j ≤ 2147483647) {i : Int} (hi : 0 ≤ i ∧ i + 6 ≤ (L : Int)) (hL : L ≤ 3072) {h : av_H} (B : BX h) {Q : Option av_V → av_H → Prop} (hk : ∀ h', BX h' → RM h h' → av_wp (some (L, f)) cd_L 1284 [some (.inr (.inr (.inr 100))), some (.inr (.inr (.inl (some (0))))), some (.inr (.inr (.inl (some (77))))), some (.inl i)] [] h' Q) : av_wp (some (L, f)) cd_L 735 [some (.inr (.inr (.inr 100))), some (.inr (.inr (.inl (some (0))))), some (.inr (.inr (.inl (some (77))))), some (.inl i)] [] h Q := by
  refine av_wp_sqL cL_15_ok 5 (pc' := 740) (lv' := [some (.inr (.inr (.inr 100))), some (.inr (.inr (.inl (some (0))))), some (.inr (.inr (.inl (some (77))))), some (.inl i)]) (st' := [.inl (i + (1)), .inr (.inr (.inr 100)), .inr (.inr (.inl (some (0))))]) (h' := h) rfl ?_
  refine wq_scr (p' := 741) (cL_15_ok _ _ rfl) rfl ⟨by omega, by omega, by omega⟩ ?_
  refine av_wp_sqL cL_15_ok 4 (pc' := 745) (lv' := [some (.inr (.inr (.inr 100))), some (.inr (.inr (.inl (some (0))))), some (.inr (.inr (.inl (some (77))))), some (.inl i)]) (st' := [.inl (i + (2)), .inr (.inr (.inr 100)), .inl (f (Int.toNat (i + (1)))), .inr (.inr (.inl (some (0))))]) (h' := h) rfl ?_
  refine wq_scr (p' := 746) (cL_15_ok _ _ rfl) rfl ⟨by omega, by omega, by omega⟩ ?_
  refine av_wp_sqL cL_15_ok 4 (pc' := 750) (lv' := [some (.inr (.inr (.inr 100))), some (.inr (.inr (.inl (some (0))))), some (.inr (.inr (.inl (some (77))))), some (.inl i)]) (st' := [.inl (i + (3)), .inr (.inr (.inr 100)), .inl (f (Int.toNat (i + (2)))), .inl (f (Int.toNat (i + (1)))), .inr (.inr (.inl (some (0))))]) (h' := h) rfl ?_
  refine wq_scr (p' := 751) (cL_15_ok _ _ rfl) rfl ⟨by omega, by omega, by omega⟩ ?_
  refine av_wp_sqL cL_15_ok 4 (pc' := 755) (lv' := [some (.inr (.inr (.inr 100))), some (.inr (.inr (.inl (some (0))))), some (.inr (.inr (.inl (some (77))))), some (.inl i)]) (st' := [.inl (i + (4)), .inr (.inr (.inr 100)), .inl (f (Int.toNat (i + (3)))), .inl (f (Int.toNat (i + (2)))), .inl (f (Int.toNat (i + (1)))), .inr (.inr (.inl (some (0))))]) (h' := h) rfl ?_
  refine wq_scr (p' := 756) (cL_15_ok _ _ rfl) rfl ⟨by omega, by omega, by omega⟩ ?_
  refine wq_cv (p' := 759) (av_qc (.invokevirtual 79) 111 4 0 7) 5 cd_111 [.inl (f (Int.toNat (i + (4)))), .inl (f (Int.toNat (i + (3)))), .inl (f (Int.toNat (i + (2)))), .inl (f (Int.toNat (i + (1))))] (0) 7 [some (.inr (.inr (.inl (some (0))))), some (.inl (f (Int.toNat (i + (1))))), some (.inl (f (Int.toNat (i + (2))))), some (.inl (f (Int.toNat (i + (3))))), some (.inl (f (Int.toNat (i + (4)))))] (cL_15_ok _ _ rfl) rfl rfl pp_111 rfl rfl rfl (congrArg Prod.fst (ly_k B.1.1.1 0 rfl)) rfl rfl rfl rfl ?_
  refine av_wp_mono (oz_111 B (f (Int.toNat (i + (1)))) (f (Int.toNat (i + (2)))) (f (Int.toNat (i + (3)))) (f (Int.toNat (i + (4)))) (hf _) (hf _) (hf _) (hf _)) (fun v h1 z => ?_)
  obtain ⟨x, rfl, k77, W⟩ := z
  show av_wp (some (L, f)) cd_L 759 [some (.inr (.inr (.inr 100))), some (.inr (.inr (.inl (some (0))))), some (.inr (.inr (.inl (some (77))))), some (.inl i)] [.inl x] h1 Q
  refine av_wp_sqL cL_15_ok 6 (pc' := 765) (lv' := [some (.inr (.inr (.inr 100))), some (.inr (.inr (.inl (some (0))))), some (.inr (.inr (.inl (some (77))))), some (.inl i)]) (st' := [.inl (i + (1)), .inr (.inr (.inr 100)), .inr (.inr (.inl (some (77))))]) (h' := h1) rfl ?_
  refine wq_scr (p' := 766) (cL_15_ok _ _ rfl) rfl ⟨by omega, by omega, by omega⟩ ?_
  refine av_wp_sqL cL_15_ok 4 (pc' := 770) (lv' := [some (.inr (.inr (.inr 100))), some (.inr (.inr (.inl (some (0))))), some (.inr (.inr (.inl (some (77))))), some (.inl i)]) (st' := [.inl (i + (2)), .inr (.inr (.inr 100)), .inl (f (Int.toNat (i + (1)))), .inr (.inr (.inl (some (77))))]) (h' := h1) rfl ?_
  refine wq_scr (p' := 771) (cL_15_ok _ _ rfl) rfl ⟨by omega, by omega, by omega⟩ ?_
  refine av_wp_sqL cL_15_ok 4 (pc' := 775) (lv' := [some (.inr (.inr (.inr 100))), some (.inr (.inr (.inl (some (0))))), some (.inr (.inr (.inl (some (77))))), some (.inl i)]) (st' := [.inl (i + (3)), .inr (.inr (.inr 100)), .inl (f (Int.toNat (i + (2)))), .inl (f (Int.toNat (i + (1)))), .inr (.inr (.inl (some (77))))]) (h' := h1) rfl ?_
  refine wq_scr (p' := 776) (cL_15_ok _ _ rfl) rfl ⟨by omega, by omega, by omega⟩ ?_
  refine av_wp_sqL cL_15_ok 4 (pc' := 780) (lv' := [some (.inr (.inr (.inr 100))), some (.inr (.inr (.inl (some (0))))), some (.inr (.inr (.inl (some (77))))), some (.inl i)]) (st' := [.inl (i + (4)), .inr (.inr (.inr 100)), .inl (f (Int.toNat (i + (3)))), .inl (f (Int.toNat (i + (2)))), .inl (f (Int.toNat (i + (1)))), .inr (.inr (.inl (some (77))))]) (h' := h1) rfl ?_
  refine wq_scr (p' := 781) (cL_15_ok _ _ rfl) rfl ⟨by omega, by omega, by omega⟩ ?_
  refine wq_cv (p' := 784) (av_qc (.invokevirtual 82) 198 4 0 8) 8 cd_198 [.inl (f (Int.toNat (i + (4)))), .inl (f (Int.toNat (i + (3)))), .inl (f (Int.toNat (i + (2)))), .inl (f (Int.toNat (i + (1))))] (77) 8 [some (.inr (.inr (.inl (some (77))))), some (.inl (f (Int.toNat (i + (1))))), some (.inl (f (Int.toNat (i + (2))))), some (.inl (f (Int.toNat (i + (3))))), some (.inl (f (Int.toNat (i + (4))))), none, none, none] (cL_15_ok _ _ rfl) rfl rfl pp_198 rfl rfl rfl (congrArg Prod.fst k77) rfl rfl rfl rfl ?_
  refine av_wp_mono W (fun v h2 z => ?_)
  obtain ⟨y, rfl, e, B2, R2⟩ := z
  show av_wp (some (L, f)) cd_L 784 [some (.inr (.inr (.inr 100))), some (.inr (.inr (.inl (some (0))))), some (.inr (.inr (.inl (some (77))))), some (.inl i)] [.inl y] h2 Q
  refine av_wp_sqL cL_15_ok 2 (pc' := 1284) (lv' := [some (.inr (.inr (.inr 100))), some (.inr (.inr (.inl (some (0))))), some (.inr (.inr (.inl (some (77))))), some (.inl i)]) (st' := []) (h' := h2) rfl ?_
  exact hk h2 B2 R2
def cL_16 : List (Nat × av_E) := [(788, av_q (.aload_n 1)), (789, av_q (.aload_n 0)), (790, av_q (.iload_n 3)), (791, av_q (.iconst 1)), (792, av_q (.iadd)), (793, av_q (.iaload)), (794, av_q (.aload_n 0)), (795, av_q (.iload_n 3)), (796, av_q (.iconst 2)), (797, av_q (.iadd)), (798, av_q (.iaload)), (799, av_q (.aload_n 0)), (800, av_q (.iload_n 3)), (801, av_q (.iconst 3)), (802, av_q (.iadd)), (803, av_q (.iaload)), (804, av_q (.aload_n 0)), (805, av_q (.iload_n 3)), (806, av_q (.iconst 4)), (807, av_q (.iadd)), (808, av_q (.iaload)), (809, av_q (.aload_n 0)), (810, av_q (.iload_n 3)), (811, av_q (.iconst 5)), (812, av_q (.iadd)), (813, av_q (.iaload)), (814, av_qc (.invokevirtual 83) 112 5 0 7), (817, av_q (.pop)), (818, av_q (.aload_n 2)), (819, av_q (.aload_n 0)), (820, av_q (.iload_n 3)), (821, av_q (.iconst 1)), (822, av_q (.iadd)), (823, av_q (.iaload)), (824, av_q (.aload_n 0)), (825, av_q (.iload_n 3)), (826, av_q (.iconst 2)), (827, av_q (.iadd)), (828, av_q (.iaload)), (829, av_q (.aload_n 0)), (830, av_q (.iload_n 3)), (831, av_q (.iconst 3)), (832, av_q (.iadd)), (833, av_q (.iaload)), (834, av_q (.aload_n 0)), (835, av_q (.iload_n 3)), (836, av_q (.iconst 4)), (837, av_q (.iadd)), (838, av_q (.iaload)), (839, av_q (.aload_n 0)), (840, av_q (.iload_n 3)), (841, av_q (.iconst 5)), (842, av_q (.iadd)), (843, av_q (.iaload)), (844, av_qc (.invokevirtual 86) 199 5 0 8), (847, av_q (.pop)), (848, av_qa (.goto 436) 1284)]
set_option maxRecDepth 100000 in
set_option maxHeartbeats 8000000 in
theorem cL_16_ok : ∀ (pc : Nat) (x : av_E), cL_16.lookup pc = some x → cd_L.lookup pc = some x := av_lks (by decide +kernel)
set_option maxRecDepth 100000 in
set_option maxHeartbeats 8000000 in
theorem lo_16 {L : Nat} {f : Nat → Int} (hf : ∀ j, -2147483648 ≤ f j ∧ f j ≤ 2147483647) {i : Int} (hi : 0 ≤ i ∧ i + 6 ≤ (L : Int)) (hL : L ≤ 3072) {h : av_H} (B : BX h) {Q : Option av_V → av_H → Prop} (hk : ∀ h', BX h' → RM h h' → av_wp (some (L, f)) cd_L 1284 [some (.inr (.inr (.inr 100))), some (.inr (.inr (.inl (some (0))))), some (.inr (.inr (.inl (some (77))))), some (.inl i)] [] h' Q) : av_wp (some (L, f)) cd_L 788 [some (.inr (.inr (.inr 100))), some (.inr (.inr (.inl (some (0))))), some (.inr (.inr (.inl (some (77))))), some (.inl i)] [] h Q := by
  refine av_wp_sqL cL_16_ok 5 (pc' := 793) (lv' := [some (.inr (.inr (.inr 100))), some (.inr (.inr (.inl (some (0))))), some (.inr (.inr (.inl (some (77))))), some (.inl i)]) (st' := [.inl (i + (1)), .inr (.inr (.inr 100)), .inr (.inr (.inl (some (0))))]) (h' := h) rfl ?_
  refine wq_scr (p' := 794) (cL_16_ok _ _ rfl) rfl ⟨by omega, by omega, by omega⟩ ?_
  refine av_wp_sqL cL_16_ok 4 (pc' := 798) (lv' := [some (.inr (.inr (.inr 100))), some (.inr (.inr (.inl (some (0))))), some (.inr (.inr (.inl (some (77))))), some (.inl i)]) (st' := [.inl (i + (2)), .inr (.inr (.inr 100)), .inl (f (Int.toNat (i + (1)))), .inr (.inr (.inl (some (0))))]) (h' := h) rfl ?_
  refine wq_scr (p' := 799) (cL_16_ok _ _ rfl) rfl ⟨by omega, by omega, by omega⟩ ?_
  refine av_wp_sqL cL_16_ok 4 (pc' := 803) (lv' := [some (.inr (.inr (.inr 100))), some (.inr (.inr (.inl (some (0))))), some (.inr (.inr (.inl (some (77))))), some (.inl i)]) (st' := [.inl (i + (3)), .inr (.inr (.inr 100)), .inl (f (Int.toNat (i + (2)))), .inl (f (Int.toNat (i + (1)))), .inr (.inr (.inl (some (0))))]) (h' := h) rfl ?_
  refine wq_scr (p' := 804) (cL_16_ok _ _ rfl) rfl ⟨by omega, by omega, by omega⟩ ?_
  refine av_wp_sqL cL_16_ok 4 (pc' := 808) (lv' := [some (.inr (.inr (.inr 100))), some (.inr (.inr (.inl (some (0))))), some (.inr (.inr (.inl (some (77))))), some (.inl i)]) (st' := [.inl (i + (4)), .inr (.inr (.inr 100)), .inl (f (Int.toNat (i + (3)))), .inl (f (Int.toNat (i + (2)))), .inl (f (Int.toNat (i + (1)))), .inr (.inr (.inl (some (0))))]) (h' := h) rfl ?_
  refine wq_scr (p' := 809) (cL_16_ok _ _ rfl) rfl ⟨by omega, by omega, by omega⟩ ?_
  refine av_wp_sqL cL_16_ok 4 (pc' := 813) (lv' := [some (.inr (.inr (.inr 100))), some (.inr (.inr (.inl (some (0))))), some (.inr (.inr (.inl (some (77))))), some (.inl i)]) (st' := [.inl (i + (5)), .inr (.inr (.inr 100)), .inl (f (Int.toNat (i + (4)))), .inl (f (Int.toNat (i + (3)))), .inl (f (Int.toNat (i + (2)))), .inl (f (Int.toNat (i + (1)))), .inr (.inr (.inl (some (0))))]) (h' := h) rfl ?_
  refine wq_scr (p' := 814) (cL_16_ok _ _ rfl) rfl ⟨by omega, by omega, by omega⟩ ?_
  refine wq_cv (p' := 817) (av_qc (.invokevirtual 83) 112 5 0 7) 8 cd_112 [.inl (f (Int.toNat (i + (5)))), .inl (f (Int.toNat (i + (4)))), .inl (f (Int.toNat (i + (3)))), .inl (f (Int.toNat (i + (2)))), .inl (f (Int.toNat (i + (1))))] (0) 7 [some (.inr (.inr (.inl (some (0))))), some (.inl (f (Int.toNat (i + (1))))), some (.inl (f (Int.toNat (i + (2))))), some (.inl (f (Int.toNat (i + (3))))), some (.inl (f (Int.toNat (i + (4))))), some (.inl (f (Int.toNat (i + (5))))), none, none] (cL_16_ok _ _ rfl) rfl rfl pp_112 rfl rfl rfl (congrArg Prod.fst (ly_k B.1.1.1 0 rfl)) rfl rfl rfl rfl ?_
  refine av_wp_mono (oz_112 B (f (Int.toNat (i + (1)))) (f (Int.toNat (i + (2)))) (f (Int.toNat (i + (3)))) (f (Int.toNat (i + (4)))) (f (Int.toNat (i + (5)))) (hf _) (hf _) (hf _) (hf _) (hf _)) (fun v h1 z => ?_)
  obtain ⟨x, rfl, k77, W⟩ := z
  show av_wp (some (L, f)) cd_L 817 [some (.inr (.inr (.inr 100))), some (.inr (.inr (.inl (some (0))))), some (.inr (.inr (.inl (some (77))))), some (.inl i)] [.inl x] h1 Q
  refine av_wp_sqL cL_16_ok 6 (pc' := 823) (lv' := [some (.inr (.inr (.inr 100))), some (.inr (.inr (.inl (some (0))))), some (.inr (.inr (.inl (some (77))))), some (.inl i)]) (st' := [.inl (i + (1)), .inr (.inr (.inr 100)), .inr (.inr (.inl (some (77))))]) (h' := h1) rfl ?_
  refine wq_scr (p' := 824) (cL_16_ok _ _ rfl) rfl ⟨by omega, by omega, by omega⟩ ?_
  refine av_wp_sqL cL_16_ok 4 (pc' := 828) (lv' := [some (.inr (.inr (.inr 100))), some (.inr (.inr (.inl (some (0))))), some (.inr (.inr (.inl (some (77))))), some (.inl i)]) (st' := [.inl (i + (2)), .inr (.inr (.inr 100)), .inl (f (Int.toNat (i + (1)))), .inr (.inr (.inl (some (77))))]) (h' := h1) rfl ?_
  refine wq_scr (p' := 829) (cL_16_ok _ _ rfl) rfl ⟨by omega, by omega, by omega⟩ ?_
  refine av_wp_sqL cL_16_ok 4 (pc' := 833) (lv' := [some (.inr (.inr (.inr 100))), some (.inr (.inr (.inl (some (0))))), some (.inr (.inr (.inl (some (77))))), some (.inl i)]) (st' := [.inl (i + (3)), .inr (.inr (.inr 100)), .inl (f (Int.toNat (i + (2)))), .inl (f (Int.toNat (i + (1)))), .inr (.inr (.inl (some (77))))]) (h' := h1) rfl ?_
  refine wq_scr (p' := 834) (cL_16_ok _ _ rfl) rfl ⟨by omega, by omega, by omega⟩ ?_
  refine av_wp_sqL cL_16_ok 4 (pc' := 838) (lv' := [some (.inr (.inr (.inr 100))), some (.inr (.inr (.inl (some (0))))), some (.inr (.inr (.inl (some (77))))), some (.inl i)]) (st' := [.inl (i + (4)), .inr (.inr (.inr 100)), .inl (f (Int.toNat (i + (3)))), .inl (f (Int.toNat (i + (2)))), .inl (f (Int.toNat (i + (1)))), .inr (.inr (.inl (some (77))))]) (h' := h1) rfl ?_
  refine wq_scr (p' := 839) (cL_16_ok _ _ rfl) rfl ⟨by omega, by omega, by omega⟩ ?_
  refine av_wp_sqL cL_16_ok 4 (pc' := 843) (lv' := [some (.inr (.inr (.inr 100))), some (.inr (.inr (.inl (some (0))))), some (.inr (.inr (.inl (some (77))))), some (.inl i)]) (st' := [.inl (i + (5)), .inr (.inr (.inr 100)), .inl (f (Int.toNat (i + (4)))), .inl (f (Int.toNat (i + (3)))), .inl (f (Int.toNat (i + (2)))), .inl (f (Int.toNat (i + (1)))), .inr (.inr (.inl (some (77))))]) (h' := h1) rfl ?_
  refine wq_scr (p' := 844) (cL_16_ok _ _ rfl) rfl ⟨by omega, by omega, by omega⟩ ?_
  refine wq_cv (p' := 847) (av_qc (.invokevirtual 86) 199 5 0 8) 6 cd_199 [.inl (f (Int.toNat (i + (5)))), .inl (f (Int.toNat (i + (4)))), .inl (f (Int.toNat (i + (3)))), .inl (f (Int.toNat (i + (2)))), .inl (f (Int.toNat (i + (1))))] (77) 8 [some (.inr (.inr (.inl (some (77))))), some (.inl (f (Int.toNat (i + (1))))), some (.inl (f (Int.toNat (i + (2))))), some (.inl (f (Int.toNat (i + (3))))), some (.inl (f (Int.toNat (i + (4))))), some (.inl (f (Int.toNat (i + (5)))))] (cL_16_ok _ _ rfl) rfl rfl pp_199 rfl rfl rfl (congrArg Prod.fst k77) rfl rfl rfl rfl ?_
  refine av_wp_mono W (fun v h2 z => ?_)
  obtain ⟨y, rfl, e, B2, R2⟩ := z
  show av_wp (some (L, f)) cd_L 847 [some (.inr (.inr (.inr 100))), some (.inr (.inr (.inl (some (0))))), some (.inr (.inr (.inl (some (77))))), some (.inl i)] [.inl y] h2 Q
  refine av_wp_sqL cL_16_ok 2 (pc' := 1284) (lv' := [some (.inr (.inr (.inr 100))), some (.inr (.inr (.inl (some (0))))), some (.inr (.inr (.inl (some (77))))), some (.inl i)]) (st' := []) (h' := h2) rfl ?_
  exact hk h2 B2 R2
def cL_17 : List (Nat × av_E) := [(851, av_q (.aload_n 1)), (852, av_q (.aload_n 0)), (853, av_q (.iload_n 3)), (854, av_q (.iconst 1)), (855, av_q (.iadd)), (856, av_q (.iaload)), (857, av_q (.aload_n 0)), (858, av_q (.iload_n 3)), (859, av_q (.iconst 2)), (860, av_q (.iadd)), (861, av_q (.iaload)), (862, av_q (.aload_n 0)), (863, av_q (.iload_n 3)), (864, av_q (.iconst 3)), (865, av_q (.iadd)), (866, av_q (.iaload)), (867, av_q (.aload_n 0)), (868, av_q (.iload_n 3)), (869, av_q (.iconst 4)), (870, av_q (.iadd)), (871, av_q (.iaload)), (872, av_qc (.invokevirtual 87) 113 4 0 7), (875, av_q (.pop)), (876, av_q (.aload_n 2)), (877, av_q (.aload_n 0)), (878, av_q (.iload_n 3)), (879, av_q (.iconst 1)), (880, av_q (.iadd)), (881, av_q (.iaload)), (882, av_q (.aload_n 0)), (883, av_q (.iload_n 3)), (884, av_q (.iconst 2)), (885, av_q (.iadd)), (886, av_q (.iaload)), (887, av_q (.aload_n 0)), (888, av_q (.iload_n 3)), (889, av_q (.iconst 3)), (890, av_q (.iadd)), (891, av_q (.iaload)), (892, av_q (.aload_n 0)), (893, av_q (.iload_n 3)), (894, av_q (.iconst 4)), (895, av_q (.iadd)), (896, av_q (.iaload)), (897, av_qc (.invokevirtual 90) 201 4 0 8), (900, av_q (.pop)), (901, av_qa (.goto 383) 1284)]
set_option maxRecDepth 100000 in
set_option maxHeartbeats 8000000 in
theorem cL_17_ok : ∀ (pc : Nat) (x : av_E), cL_17.lookup pc = some x → cd_L.lookup pc = some x := av_lks (by decide +kernel)
set_option maxRecDepth 100000 in
set_option maxHeartbeats 8000000 in
theorem lo_17 {L : Nat} {f : Nat → Int} (hf : ∀ j, -2147483648 ≤ f j ∧ f j ≤ 2147483647) {i : Int} (hi : 0 ≤ i ∧ i + 6 ≤ (L : Int)) (hL : L ≤ 3072) {h : av_H} (B : BX h) {Q : Option av_V → av_H → Prop} (hk : ∀ h', BX h' → RM h h' → av_wp (some (L, f)) cd_L 1284 [some (.inr (.inr (.inr 100))), some (.inr (.inr (.inl (some (0))))), some (.inr (.inr (.inl (some (77))))), some (.inl i)] [] h' Q) : av_wp (some (L, f)) cd_L 851 [some (.inr (.inr (.inr 100))), some (.inr (.inr (.inl (some (0))))), some (.inr (.inr (.inl (some (77))))), some (.inl i)] [] h Q := by
  refine av_wp_sqL cL_17_ok 5 (pc' := 856) (lv' := [some (.inr (.inr (.inr 100))), some (.inr (.inr (.inl (some (0))))), some (.inr (.inr (.inl (some (77))))), some (.inl i)]) (st' := [.inl (i + (1)), .inr (.inr (.inr 100)), .inr (.inr (.inl (some (0))))]) (h' := h) rfl ?_
  refine wq_scr (p' := 857) (cL_17_ok _ _ rfl) rfl ⟨by omega, by omega, by omega⟩ ?_
  refine av_wp_sqL cL_17_ok 4 (pc' := 861) (lv' := [some (.inr (.inr (.inr 100))), some (.inr (.inr (.inl (some (0))))), some (.inr (.inr (.inl (some (77))))), some (.inl i)]) (st' := [.inl (i + (2)), .inr (.inr (.inr 100)), .inl (f (Int.toNat (i + (1)))), .inr (.inr (.inl (some (0))))]) (h' := h) rfl ?_
  refine wq_scr (p' := 862) (cL_17_ok _ _ rfl) rfl ⟨by omega, by omega, by omega⟩ ?_
  refine av_wp_sqL cL_17_ok 4 (pc' := 866) (lv' := [some (.inr (.inr (.inr 100))), some (.inr (.inr (.inl (some (0))))), some (.inr (.inr (.inl (some (77))))), some (.inl i)]) (st' := [.inl (i + (3)), .inr (.inr (.inr 100)), .inl (f (Int.toNat (i + (2)))), .inl (f (Int.toNat (i + (1)))), .inr (.inr (.inl (some (0))))]) (h' := h) rfl ?_
  refine wq_scr (p' := 867) (cL_17_ok _ _ rfl) rfl ⟨by omega, by omega, by omega⟩ ?_
  refine av_wp_sqL cL_17_ok 4 (pc' := 871) (lv' := [some (.inr (.inr (.inr 100))), some (.inr (.inr (.inl (some (0))))), some (.inr (.inr (.inl (some (77))))), some (.inl i)]) (st' := [.inl (i + (4)), .inr (.inr (.inr 100)), .inl (f (Int.toNat (i + (3)))), .inl (f (Int.toNat (i + (2)))), .inl (f (Int.toNat (i + (1)))), .inr (.inr (.inl (some (0))))]) (h' := h) rfl ?_
  refine wq_scr (p' := 872) (cL_17_ok _ _ rfl) rfl ⟨by omega, by omega, by omega⟩ ?_
  refine wq_cv (p' := 875) (av_qc (.invokevirtual 87) 113 4 0 7) 5 cd_113 [.inl (f (Int.toNat (i + (4)))), .inl (f (Int.toNat (i + (3)))), .inl (f (Int.toNat (i + (2)))), .inl (f (Int.toNat (i + (1))))] (0) 7 [some (.inr (.inr (.inl (some (0))))), some (.inl (f (Int.toNat (i + (1))))), some (.inl (f (Int.toNat (i + (2))))), some (.inl (f (Int.toNat (i + (3))))), some (.inl (f (Int.toNat (i + (4)))))] (cL_17_ok _ _ rfl) rfl rfl pp_113 rfl rfl rfl (congrArg Prod.fst (ly_k B.1.1.1 0 rfl)) rfl rfl rfl rfl ?_
  refine av_wp_mono (oz_113 B (f (Int.toNat (i + (1)))) (f (Int.toNat (i + (2)))) (f (Int.toNat (i + (3)))) (f (Int.toNat (i + (4)))) (hf _) (hf _) (hf _) (hf _)) (fun v h1 z => ?_)
  obtain ⟨x, rfl, k77, W⟩ := z
  show av_wp (some (L, f)) cd_L 875 [some (.inr (.inr (.inr 100))), some (.inr (.inr (.inl (some (0))))), some (.inr (.inr (.inl (some (77))))), some (.inl i)] [.inl x] h1 Q
  refine av_wp_sqL cL_17_ok 6 (pc' := 881) (lv' := [some (.inr (.inr (.inr 100))), some (.inr (.inr (.inl (some (0))))), some (.inr (.inr (.inl (some (77))))), some (.inl i)]) (st' := [.inl (i + (1)), .inr (.inr (.inr 100)), .inr (.inr (.inl (some (77))))]) (h' := h1) rfl ?_
  refine wq_scr (p' := 882) (cL_17_ok _ _ rfl) rfl ⟨by omega, by omega, by omega⟩ ?_
  refine av_wp_sqL cL_17_ok 4 (pc' := 886) (lv' := [some (.inr (.inr (.inr 100))), some (.inr (.inr (.inl (some (0))))), some (.inr (.inr (.inl (some (77))))), some (.inl i)]) (st' := [.inl (i + (2)), .inr (.inr (.inr 100)), .inl (f (Int.toNat (i + (1)))), .inr (.inr (.inl (some (77))))]) (h' := h1) rfl ?_
  refine wq_scr (p' := 887) (cL_17_ok _ _ rfl) rfl ⟨by omega, by omega, by omega⟩ ?_
  refine av_wp_sqL cL_17_ok 4 (pc' := 891) (lv' := [some (.inr (.inr (.inr 100))), some (.inr (.inr (.inl (some (0))))), some (.inr (.inr (.inl (some (77))))), some (.inl i)]) (st' := [.inl (i + (3)), .inr (.inr (.inr 100)), .inl (f (Int.toNat (i + (2)))), .inl (f (Int.toNat (i + (1)))), .inr (.inr (.inl (some (77))))]) (h' := h1) rfl ?_
  refine wq_scr (p' := 892) (cL_17_ok _ _ rfl) rfl ⟨by omega, by omega, by omega⟩ ?_
  refine av_wp_sqL cL_17_ok 4 (pc' := 896) (lv' := [some (.inr (.inr (.inr 100))), some (.inr (.inr (.inl (some (0))))), some (.inr (.inr (.inl (some (77))))), some (.inl i)]) (st' := [.inl (i + (4)), .inr (.inr (.inr 100)), .inl (f (Int.toNat (i + (3)))), .inl (f (Int.toNat (i + (2)))), .inl (f (Int.toNat (i + (1)))), .inr (.inr (.inl (some (77))))]) (h' := h1) rfl ?_
  refine wq_scr (p' := 897) (cL_17_ok _ _ rfl) rfl ⟨by omega, by omega, by omega⟩ ?_
  refine wq_cv (p' := 900) (av_qc (.invokevirtual 90) 201 4 0 8) 5 cd_201 [.inl (f (Int.toNat (i + (4)))), .inl (f (Int.toNat (i + (3)))), .inl (f (Int.toNat (i + (2)))), .inl (f (Int.toNat (i + (1))))] (77) 8 [some (.inr (.inr (.inl (some (77))))), some (.inl (f (Int.toNat (i + (1))))), some (.inl (f (Int.toNat (i + (2))))), some (.inl (f (Int.toNat (i + (3))))), some (.inl (f (Int.toNat (i + (4)))))] (cL_17_ok _ _ rfl) rfl rfl pp_201 rfl rfl rfl (congrArg Prod.fst k77) rfl rfl rfl rfl ?_
  refine av_wp_mono W (fun v h2 z => ?_)
  obtain ⟨y, rfl, e, B2, R2⟩ := z
  show av_wp (some (L, f)) cd_L 900 [some (.inr (.inr (.inr 100))), some (.inr (.inr (.inl (some (0))))), some (.inr (.inr (.inl (some (77))))), some (.inl i)] [.inl y] h2 Q
  refine av_wp_sqL cL_17_ok 2 (pc' := 1284) (lv' := [some (.inr (.inr (.inr 100))), some (.inr (.inr (.inl (some (0))))), some (.inr (.inr (.inl (some (77))))), some (.inl i)]) (st' := []) (h' := h2) rfl ?_
  exact hk h2 B2 R2
def cL_18 : List (Nat × av_E) := [(904, av_q (.aload_n 1)), (905, av_q (.aload_n 0)), (906, av_q (.iload_n 3)), (907, av_q (.iconst 1)), (908, av_q (.iadd)), (909, av_q (.iaload)), (910, av_q (.aload_n 0)), (911, av_q (.iload_n 3)), (912, av_q (.iconst 2)), (913, av_q (.iadd)), (914, av_q (.iaload)), (915, av_qc (.invokevirtual 91) 114 2 0 7), (918, av_q (.pop)), (919, av_q (.aload_n 2)), (920, av_q (.aload_n 0)), (921, av_q (.iload_n 3)), (922, av_q (.iconst 1)), (923, av_q (.iadd)), (924, av_q (.iaload)), (925, av_q (.aload_n 0)), (926, av_q (.iload_n 3)), (927, av_q (.iconst 2)), (928, av_q (.iadd)), (929, av_q (.iaload)), (930, av_qc (.invokevirtual 94) 202 2 0 8), (933, av_q (.pop)), (934, av_qa (.goto 350) 1284)]
set_option maxRecDepth 100000 in
set_option maxHeartbeats 8000000 in
theorem cL_18_ok : ∀ (pc : Nat) (x : av_E), cL_18.lookup pc = some x → cd_L.lookup pc = some x := av_lks (by decide +kernel)
set_option maxRecDepth 100000 in
set_option maxHeartbeats 8000000 in
theorem lo_18 {L : Nat} {f : Nat → Int} (hf : ∀ j, -2147483648 ≤ f j ∧ f j ≤ 2147483647) {i : Int} (hi : 0 ≤ i ∧ i + 6 ≤ (L : Int)) (hL : L ≤ 3072) {h : av_H} (B : BX h) {Q : Option av_V → av_H → Prop} (hk : ∀ h', BX h' → RM h h' → av_wp (some (L, f)) cd_L 1284 [some (.inr (.inr (.inr 100))), some (.inr (.inr (.inl (some (0))))), some (.inr (.inr (.inl (some (77))))), some (.inl i)] [] h' Q) : av_wp (some (L, f)) cd_L 904 [some (.inr (.inr (.inr 100))), some (.inr (.inr (.inl (some (0))))), some (.inr (.inr (.inl (some (77))))), some (.inl i)] [] h Q := by
  refine av_wp_sqL cL_18_ok 5 (pc' := 909) (lv' := [some (.inr (.inr (.inr 100))), some (.inr (.inr (.inl (some (0))))), some (.inr (.inr (.inl (some (77))))), some (.inl i)]) (st' := [.inl (i + (1)), .inr (.inr (.inr 100)), .inr (.inr (.inl (some (0))))]) (h' := h) rfl ?_
  refine wq_scr (p' := 910) (cL_18_ok _ _ rfl) rfl ⟨by omega, by omega, by omega⟩ ?_
  refine av_wp_sqL cL_18_ok 4 (pc' := 914) (lv' := [some (.inr (.inr (.inr 100))), some (.inr (.inr (.inl (some (0))))), some (.inr (.inr (.inl (some (77))))), some (.inl i)]) (st' := [.inl (i + (2)), .inr (.inr (.inr 100)), .inl (f (Int.toNat (i + (1)))), .inr (.inr (.inl (some (0))))]) (h' := h) rfl ?_
  refine wq_scr (p' := 915) (cL_18_ok _ _ rfl) rfl ⟨by omega, by omega, by omega⟩ ?_
  refine wq_cv (p' := 918) (av_qc (.invokevirtual 91) 114 2 0 7) 8 cd_114 [.inl (f (Int.toNat (i + (2)))), .inl (f (Int.toNat (i + (1))))] (0) 7 [some (.inr (.inr (.inl (some (0))))), some (.inl (f (Int.toNat (i + (1))))), some (.inl (f (Int.toNat (i + (2))))), none, none, none, none, none] (cL_18_ok _ _ rfl) rfl rfl pp_114 rfl rfl rfl (congrArg Prod.fst (ly_k B.1.1.1 0 rfl)) rfl rfl rfl rfl ?_
  refine av_wp_mono (oz_114 B (f (Int.toNat (i + (1)))) (f (Int.toNat (i + (2)))) (hf _) (hf _)) (fun v h1 z => ?_)
  obtain ⟨x, rfl, k77, W⟩ := z
  show av_wp (some (L, f)) cd_L 918 [some (.inr (.inr (.inr 100))), some (.inr (.inr (.inl (some (0))))), some (.inr (.inr (.inl (some (77))))), some (.inl i)] [.inl x] h1 Q
  refine av_wp_sqL cL_18_ok 6 (pc' := 924) (lv' := [some (.inr (.inr (.inr 100))), some (.inr (.inr (.inl (some (0))))), some (.inr (.inr (.inl (some (77))))), some (.inl i)]) (st' := [.inl (i + (1)), .inr (.inr (.inr 100)), .inr (.inr (.inl (some (77))))]) (h' := h1) rfl ?_
  refine wq_scr (p' := 925) (cL_18_ok _ _ rfl) rfl ⟨by omega, by omega, by omega⟩ ?_
  refine av_wp_sqL cL_18_ok 4 (pc' := 929) (lv' := [some (.inr (.inr (.inr 100))), some (.inr (.inr (.inl (some (0))))), some (.inr (.inr (.inl (some (77))))), some (.inl i)]) (st' := [.inl (i + (2)), .inr (.inr (.inr 100)), .inl (f (Int.toNat (i + (1)))), .inr (.inr (.inl (some (77))))]) (h' := h1) rfl ?_
  refine wq_scr (p' := 930) (cL_18_ok _ _ rfl) rfl ⟨by omega, by omega, by omega⟩ ?_
  refine wq_cv (p' := 933) (av_qc (.invokevirtual 94) 202 2 0 8) 5 cd_202 [.inl (f (Int.toNat (i + (2)))), .inl (f (Int.toNat (i + (1))))] (77) 8 [some (.inr (.inr (.inl (some (77))))), some (.inl (f (Int.toNat (i + (1))))), some (.inl (f (Int.toNat (i + (2))))), none, none] (cL_18_ok _ _ rfl) rfl rfl pp_202 rfl rfl rfl (congrArg Prod.fst k77) rfl rfl rfl rfl ?_
  refine av_wp_mono W (fun v h2 z => ?_)
  obtain ⟨y, rfl, e, B2, R2⟩ := z
  show av_wp (some (L, f)) cd_L 933 [some (.inr (.inr (.inr 100))), some (.inr (.inr (.inl (some (0))))), some (.inr (.inr (.inl (some (77))))), some (.inl i)] [.inl y] h2 Q
  refine av_wp_sqL cL_18_ok 2 (pc' := 1284) (lv' := [some (.inr (.inr (.inr 100))), some (.inr (.inr (.inl (some (0))))), some (.inr (.inr (.inl (some (77))))), some (.inl i)]) (st' := []) (h' := h2) rfl ?_
  exact hk h2 B2 R2
def cL_19 : List (Nat × av_E) := [(937, av_q (.aload_n 1)), (938, av_q (.aload_n 0)), (939, av_q (.iload_n 3)), (940, av_q (.iconst 1)), (941, av_q (.iadd)), (942, av_q (.iaload)), (943, av_qc (.invokevirtual 95) 115 1 0 7), (946, av_q (.pop)), (947, av_q (.aload_n 2)), (948, av_q (.aload_n 0)), (949, av_q (.iload_n 3)), (950, av_q (.iconst 1)), (951, av_q (.iadd)), (952, av_q (.iaload)), (953, av_qc (.invokevirtual 98) 204 1 0 8), (956, av_q (.pop)), (957, av_qa (.goto 327) 1284)]
set_option maxRecDepth 100000 in
set_option maxHeartbeats 8000000 in
theorem cL_19_ok : ∀ (pc : Nat) (x : av_E), cL_19.lookup pc = some x → cd_L.lookup pc = some x := av_lks (by decide +kernel)
set_option maxRecDepth 100000 in
set_option maxHeartbeats 8000000 in
theorem lo_19 {L : Nat} {f : Nat → Int} (hf : ∀ j, -2147483648 ≤ f j ∧ f j ≤ 2147483647) {i : Int} (hi : 0 ≤ i ∧ i + 6 ≤ (L : Int)) (hL : L ≤ 3072) {h : av_H} (B : BX h) {Q : Option av_V → av_H → Prop} (hk : ∀ h', BX h' → RM h h' → av_wp (some (L, f)) cd_L 1284 [some (.inr (.inr (.inr 100))), some (.inr (.inr (.inl (some (0))))), some (.inr (.inr (.inl (some (77))))), some (.inl i)] [] h' Q) : av_wp (some (L, f)) cd_L 937 [some (.inr (.inr (.inr 100))), some (.inr (.inr (.inl (some (0))))), some (.inr (.inr (.inl (some (77))))), some (.inl i)] [] h Q := by
  refine av_wp_sqL cL_19_ok 5 (pc' := 942) (lv' := [some (.inr (.inr (.inr 100))), some (.inr (.inr (.inl (some (0))))), some (.inr (.inr (.inl (some (77))))), some (.inl i)]) (st' := [.inl (i + (1)), .inr (.inr (.inr 100)), .inr (.inr (.inl (some (0))))]) (h' := h) rfl ?_
  refine wq_scr (p' := 943) (cL_19_ok _ _ rfl) rfl ⟨by omega, by omega, by omega⟩ ?_
  refine wq_cv (p' := 946) (av_qc (.invokevirtual 95) 115 1 0 7) 6 cd_115 [.inl (f (Int.toNat (i + (1))))] (0) 7 [some (.inr (.inr (.inl (some (0))))), some (.inl (f (Int.toNat (i + (1))))), none, none, none, none] (cL_19_ok _ _ rfl) rfl rfl pp_115 rfl rfl rfl (congrArg Prod.fst (ly_k B.1.1.1 0 rfl)) rfl rfl rfl rfl ?_
  refine av_wp_mono (oz_115 B (f (Int.toNat (i + (1)))) (hf _)) (fun v h1 z => ?_)
  obtain ⟨x, rfl, k77, W⟩ := z
  show av_wp (some (L, f)) cd_L 946 [some (.inr (.inr (.inr 100))), some (.inr (.inr (.inl (some (0))))), some (.inr (.inr (.inl (some (77))))), some (.inl i)] [.inl x] h1 Q
  refine av_wp_sqL cL_19_ok 6 (pc' := 952) (lv' := [some (.inr (.inr (.inr 100))), some (.inr (.inr (.inl (some (0))))), some (.inr (.inr (.inl (some (77))))), some (.inl i)]) (st' := [.inl (i + (1)), .inr (.inr (.inr 100)), .inr (.inr (.inl (some (77))))]) (h' := h1) rfl ?_
  refine wq_scr (p' := 953) (cL_19_ok _ _ rfl) rfl ⟨by omega, by omega, by omega⟩ ?_
  refine wq_cv (p' := 956) (av_qc (.invokevirtual 98) 204 1 0 8) 4 cd_204 [.inl (f (Int.toNat (i + (1))))] (77) 8 [some (.inr (.inr (.inl (some (77))))), some (.inl (f (Int.toNat (i + (1))))), none, none] (cL_19_ok _ _ rfl) rfl rfl pp_204 rfl rfl rfl (congrArg Prod.fst k77) rfl rfl rfl rfl ?_
  refine av_wp_mono W (fun v h2 z => ?_)
  obtain ⟨y, rfl, e, B2, R2⟩ := z
  show av_wp (some (L, f)) cd_L 956 [some (.inr (.inr (.inr 100))), some (.inr (.inr (.inl (some (0))))), some (.inr (.inr (.inl (some (77))))), some (.inl i)] [.inl y] h2 Q
  refine av_wp_sqL cL_19_ok 2 (pc' := 1284) (lv' := [some (.inr (.inr (.inr 100))), some (.inr (.inr (.inl (some (0))))), some (.inr (.inr (.inl (some (77))))), some (.inl i)]) (st' := []) (h' := h2) rfl ?_
  exact hk h2 B2 R2
def cL_20 : List (Nat × av_E) := [(960, av_q (.aload_n 1)), (961, av_q (.aload_n 0)), (962, av_q (.iload_n 3)), (963, av_q (.iconst 1)), (964, av_q (.iadd)), (965, av_q (.iaload)), (966, av_q (.aload_n 0)), (967, av_q (.iload_n 3)), (968, av_q (.iconst 2)), (969, av_q (.iadd)), (970, av_q (.iaload)), (971, av_q (.aload_n 0)), (972, av_q (.iload_n 3)), (973, av_q (.iconst 3)), (974, av_q (.iadd)), (975, av_q (.iaload)), (976, av_q (.aload_n 0)), (977, av_q (.iload_n 3)), (978, av_q (.iconst 4)), (979, av_q (.iadd)), (980, av_q (.iaload)), (981, av_qc (.invokevirtual 99) 116 4 0 7), (984, av_q (.pop)), (985, av_q (.aload_n 2)), (986, av_q (.aload_n 0)), (987, av_q (.iload_n 3)), (988, av_q (.iconst 1)), (989, av_q (.iadd)), (990, av_q (.iaload)), (991, av_q (.aload_n 0)), (992, av_q (.iload_n 3)), (993, av_q (.iconst 2)), (994, av_q (.iadd)), (995, av_q (.iaload)), (996, av_q (.aload_n 0)), (997, av_q (.iload_n 3)), (998, av_q (.iconst 3)), (999, av_q (.iadd)), (1000, av_q (.iaload)), (1001, av_q (.aload_n 0)), (1002, av_q (.iload_n 3)), (1003, av_q (.iconst 4)), (1004, av_q (.iadd)), (1005, av_q (.iaload)), (1006, av_qc (.invokevirtual 102) 205 4 0 8), (1009, av_q (.pop)), (1010, av_qa (.goto 274) 1284)]
set_option maxRecDepth 100000 in
set_option maxHeartbeats 8000000 in
theorem cL_20_ok : ∀ (pc : Nat) (x : av_E), cL_20.lookup pc = some x → cd_L.lookup pc = some x := av_lks (by decide +kernel)
set_option maxRecDepth 100000 in
set_option maxHeartbeats 8000000 in
theorem lo_20 {L : Nat} {f : Nat → Int} (hf : ∀ j, -2147483648 ≤ f j ∧ f j ≤ 2147483647) {i : Int} (hi : 0 ≤ i ∧ i + 6 ≤ (L : Int)) (hL : L ≤ 3072) {h : av_H} (B : BX h) {Q : Option av_V → av_H → Prop} (hk : ∀ h', BX h' → RM h h' → av_wp (some (L, f)) cd_L 1284 [some (.inr (.inr (.inr 100))), some (.inr (.inr (.inl (some (0))))), some (.inr (.inr (.inl (some (77))))), some (.inl i)] [] h' Q) : av_wp (some (L, f)) cd_L 960 [some (.inr (.inr (.inr 100))), some (.inr (.inr (.inl (some (0))))), some (.inr (.inr (.inl (some (77))))), some (.inl i)] [] h Q := by
  refine av_wp_sqL cL_20_ok 5 (pc' := 965) (lv' := [some (.inr (.inr (.inr 100))), some (.inr (.inr (.inl (some (0))))), some (.inr (.inr (.inl (some (77))))), some (.inl i)]) (st' := [.inl (i + (1)), .inr (.inr (.inr 100)), .inr (.inr (.inl (some (0))))]) (h' := h) rfl ?_
  refine wq_scr (p' := 966) (cL_20_ok _ _ rfl) rfl ⟨by omega, by omega, by omega⟩ ?_
  refine av_wp_sqL cL_20_ok 4 (pc' := 970) (lv' := [some (.inr (.inr (.inr 100))), some (.inr (.inr (.inl (some (0))))), some (.inr (.inr (.inl (some (77))))), some (.inl i)]) (st' := [.inl (i + (2)), .inr (.inr (.inr 100)), .inl (f (Int.toNat (i + (1)))), .inr (.inr (.inl (some (0))))]) (h' := h) rfl ?_
  refine wq_scr (p' := 971) (cL_20_ok _ _ rfl) rfl ⟨by omega, by omega, by omega⟩ ?_
  refine av_wp_sqL cL_20_ok 4 (pc' := 975) (lv' := [some (.inr (.inr (.inr 100))), some (.inr (.inr (.inl (some (0))))), some (.inr (.inr (.inl (some (77))))), some (.inl i)]) (st' := [.inl (i + (3)), .inr (.inr (.inr 100)), .inl (f (Int.toNat (i + (2)))), .inl (f (Int.toNat (i + (1)))), .inr (.inr (.inl (some (0))))]) (h' := h) rfl ?_
  refine wq_scr (p' := 976) (cL_20_ok _ _ rfl) rfl ⟨by omega, by omega, by omega⟩ ?_
  refine av_wp_sqL cL_20_ok 4 (pc' := 980) (lv' := [some (.inr (.inr (.inr 100))), some (.inr (.inr (.inl (some (0))))), some (.inr (.inr (.inl (some (77))))), some (.inl i)]) (st' := [.inl (i + (4)), .inr (.inr (.inr 100)), .inl (f (Int.toNat (i + (3)))), .inl (f (Int.toNat (i + (2)))), .inl (f (Int.toNat (i + (1)))), .inr (.inr (.inl (some (0))))]) (h' := h) rfl ?_
  refine wq_scr (p' := 981) (cL_20_ok _ _ rfl) rfl ⟨by omega, by omega, by omega⟩ ?_
  refine wq_cv (p' := 984) (av_qc (.invokevirtual 99) 116 4 0 7) 5 cd_116 [.inl (f (Int.toNat (i + (4)))), .inl (f (Int.toNat (i + (3)))), .inl (f (Int.toNat (i + (2)))), .inl (f (Int.toNat (i + (1))))] (0) 7 [some (.inr (.inr (.inl (some (0))))), some (.inl (f (Int.toNat (i + (1))))), some (.inl (f (Int.toNat (i + (2))))), some (.inl (f (Int.toNat (i + (3))))), some (.inl (f (Int.toNat (i + (4)))))] (cL_20_ok _ _ rfl) rfl rfl pp_116 rfl rfl rfl (congrArg Prod.fst (ly_k B.1.1.1 0 rfl)) rfl rfl rfl rfl ?_
  refine av_wp_mono (oz_116 B (f (Int.toNat (i + (1)))) (f (Int.toNat (i + (2)))) (f (Int.toNat (i + (3)))) (f (Int.toNat (i + (4)))) (hf _) (hf _) (hf _) (hf _)) (fun v h1 z => ?_)
  obtain ⟨x, rfl, k77, W⟩ := z
  show av_wp (some (L, f)) cd_L 984 [some (.inr (.inr (.inr 100))), some (.inr (.inr (.inl (some (0))))), some (.inr (.inr (.inl (some (77))))), some (.inl i)] [.inl x] h1 Q
  refine av_wp_sqL cL_20_ok 6 (pc' := 990) (lv' := [some (.inr (.inr (.inr 100))), some (.inr (.inr (.inl (some (0))))), some (.inr (.inr (.inl (some (77))))), some (.inl i)]) (st' := [.inl (i + (1)), .inr (.inr (.inr 100)), .inr (.inr (.inl (some (77))))]) (h' := h1) rfl ?_
  refine wq_scr (p' := 991) (cL_20_ok _ _ rfl) rfl ⟨by omega, by omega, by omega⟩ ?_
  refine av_wp_sqL cL_20_ok 4 (pc' := 995) (lv' := [some (.inr (.inr (.inr 100))), some (.inr (.inr (.inl (some (0))))), some (.inr (.inr (.inl (some (77))))), some (.inl i)]) (st' := [.inl (i + (2)), .inr (.inr (.inr 100)), .inl (f (Int.toNat (i + (1)))), .inr (.inr (.inl (some (77))))]) (h' := h1) rfl ?_
  refine wq_scr (p' := 996) (cL_20_ok _ _ rfl) rfl ⟨by omega, by omega, by omega⟩ ?_
  refine av_wp_sqL cL_20_ok 4 (pc' := 1000) (lv' := [some (.inr (.inr (.inr 100))), some (.inr (.inr (.inl (some (0))))), some (.inr (.inr (.inl (some (77))))), some (.inl i)]) (st' := [.inl (i + (3)), .inr (.inr (.inr 100)), .inl (f (Int.toNat (i + (2)))), .inl (f (Int.toNat (i + (1)))), .inr (.inr (.inl (some (77))))]) (h' := h1) rfl ?_
  refine wq_scr (p' := 1001) (cL_20_ok _ _ rfl) rfl ⟨by omega, by omega, by omega⟩ ?_
  refine av_wp_sqL cL_20_ok 4 (pc' := 1005) (lv' := [some (.inr (.inr (.inr 100))), some (.inr (.inr (.inl (some (0))))), some (.inr (.inr (.inl (some (77))))), some (.inl i)]) (st' := [.inl (i + (4)), .inr (.inr (.inr 100)), .inl (f (Int.toNat (i + (3)))), .inl (f (Int.toNat (i + (2)))), .inl (f (Int.toNat (i + (1)))), .inr (.inr (.inl (some (77))))]) (h' := h1) rfl ?_
  refine wq_scr (p' := 1006) (cL_20_ok _ _ rfl) rfl ⟨by omega, by omega, by omega⟩ ?_
  refine wq_cv (p' := 1009) (av_qc (.invokevirtual 102) 205 4 0 8) 9 cd_205 [.inl (f (Int.toNat (i + (4)))), .inl (f (Int.toNat (i + (3)))), .inl (f (Int.toNat (i + (2)))), .inl (f (Int.toNat (i + (1))))] (77) 8 [some (.inr (.inr (.inl (some (77))))), some (.inl (f (Int.toNat (i + (1))))), some (.inl (f (Int.toNat (i + (2))))), some (.inl (f (Int.toNat (i + (3))))), some (.inl (f (Int.toNat (i + (4))))), none, none, none, none] (cL_20_ok _ _ rfl) rfl rfl pp_205 rfl rfl rfl (congrArg Prod.fst k77) rfl rfl rfl rfl ?_
  refine av_wp_mono W (fun v h2 z => ?_)
  obtain ⟨y, rfl, e, B2, R2⟩ := z
  show av_wp (some (L, f)) cd_L 1009 [some (.inr (.inr (.inr 100))), some (.inr (.inr (.inl (some (0))))), some (.inr (.inr (.inl (some (77))))), some (.inl i)] [.inl y] h2 Q
  refine av_wp_sqL cL_20_ok 2 (pc' := 1284) (lv' := [some (.inr (.inr (.inr 100))), some (.inr (.inr (.inl (some (0))))), some (.inr (.inr (.inl (some (77))))), some (.inl i)]) (st' := []) (h' := h2) rfl ?_
  exact hk h2 B2 R2
def cL_21 : List (Nat × av_E) := [(1013, av_q (.aload_n 1)), (1014, av_q (.aload_n 0)), (1015, av_q (.iload_n 3)), (1016, av_q (.iconst 1)), (1017, av_q (.iadd)), (1018, av_q (.iaload)), (1019, av_q (.aload_n 0)), (1020, av_q (.iload_n 3)), (1021, av_q (.iconst 2)), (1022, av_q (.iadd)), (1023, av_q (.iaload)), (1024, av_q (.aload_n 0)), (1025, av_q (.iload_n 3)), (1026, av_q (.iconst 3)), (1027, av_q (.iadd)), (1028, av_q (.iaload)), (1029, av_q (.aload_n 0)), (1030, av_q (.iload_n 3)), (1031, av_q (.iconst 4)), (1032, av_q (.iadd)), (1033, av_q (.iaload)), (1034, av_q (.aload_n 0)), (1035, av_q (.iload_n 3)), (1036, av_q (.iconst 5)), (1037, av_q (.iadd)), (1038, av_q (.iaload)), (1039, av_qc (.invokevirtual 103) 117 5 0 7), (1042, av_q (.pop)), (1043, av_q (.aload_n 2)), (1044, av_q (.aload_n 0)), (1045, av_q (.iload_n 3)), (1046, av_q (.iconst 1)), (1047, av_q (.iadd)), (1048, av_q (.iaload)), (1049, av_q (.aload_n 0)), (1050, av_q (.iload_n 3)), (1051, av_q (.iconst 2)), (1052, av_q (.iadd)), (1053, av_q (.iaload)), (1054, av_q (.aload_n 0)), (1055, av_q (.iload_n 3)), (1056, av_q (.iconst 3)), (1057, av_q (.iadd)), (1058, av_q (.iaload)), (1059, av_q (.aload_n 0)), (1060, av_q (.iload_n 3)), (1061, av_q (.iconst 4)), (1062, av_q (.iadd)), (1063, av_q (.iaload)), (1064, av_q (.aload_n 0)), (1065, av_q (.iload_n 3)), (1066, av_q (.iconst 5)), (1067, av_q (.iadd)), (1068, av_q (.iaload)), (1069, av_qc (.invokevirtual 106) 207 5 0 8), (1072, av_q (.pop)), (1073, av_qa (.goto 211) 1284)]
set_option maxRecDepth 100000 in
set_option maxHeartbeats 8000000 in
theorem cL_21_ok : ∀ (pc : Nat) (x : av_E), cL_21.lookup pc = some x → cd_L.lookup pc = some x := av_lks (by decide +kernel)
set_option maxRecDepth 100000 in
set_option maxHeartbeats 8000000 in
theorem lo_21 {L : Nat} {f : Nat → Int} (hf : ∀ j, -2147483648 ≤ f j ∧ f j ≤ 2147483647) {i : Int} (hi : 0 ≤ i ∧ i + 6 ≤ (L : Int)) (hL : L ≤ 3072) {h : av_H} (B : BX h) {Q : Option av_V → av_H → Prop} (hk : ∀ h', BX h' → RM h h' → av_wp (some (L, f)) cd_L 1284 [some (.inr (.inr (.inr 100))), some (.inr (.inr (.inl (some (0))))), some (.inr (.inr (.inl (some (77))))), some (.inl i)] [] h' Q) : av_wp (some (L, f)) cd_L 1013 [some (.inr (.inr (.inr 100))), some (.inr (.inr (.inl (some (0))))), some (.inr (.inr (.inl (some (77))))), some (.inl i)] [] h Q := by
  refine av_wp_sqL cL_21_ok 5 (pc' := 1018) (lv' := [some (.inr (.inr (.inr 100))), some (.inr (.inr (.inl (some (0))))), some (.inr (.inr (.inl (some (77))))), some (.inl i)]) (st' := [.inl (i + (1)), .inr (.inr (.inr 100)), .inr (.inr (.inl (some (0))))]) (h' := h) rfl ?_
  refine wq_scr (p' := 1019) (cL_21_ok _ _ rfl) rfl ⟨by omega, by omega, by omega⟩ ?_
  refine av_wp_sqL cL_21_ok 4 (pc' := 1023) (lv' := [some (.inr (.inr (.inr 100))), some (.inr (.inr (.inl (some (0))))), some (.inr (.inr (.inl (some (77))))), some (.inl i)]) (st' := [.inl (i + (2)), .inr (.inr (.inr 100)), .inl (f (Int.toNat (i + (1)))), .inr (.inr (.inl (some (0))))]) (h' := h) rfl ?_
  refine wq_scr (p' := 1024) (cL_21_ok _ _ rfl) rfl ⟨by omega, by omega, by omega⟩ ?_
  refine av_wp_sqL cL_21_ok 4 (pc' := 1028) (lv' := [some (.inr (.inr (.inr 100))), some (.inr (.inr (.inl (some (0))))), some (.inr (.inr (.inl (some (77))))), some (.inl i)]) (st' := [.inl (i + (3)), .inr (.inr (.inr 100)), .inl (f (Int.toNat (i + (2)))), .inl (f (Int.toNat (i + (1)))), .inr (.inr (.inl (some (0))))]) (h' := h) rfl ?_
  refine wq_scr (p' := 1029) (cL_21_ok _ _ rfl) rfl ⟨by omega, by omega, by omega⟩ ?_
  refine av_wp_sqL cL_21_ok 4 (pc' := 1033) (lv' := [some (.inr (.inr (.inr 100))), some (.inr (.inr (.inl (some (0))))), some (.inr (.inr (.inl (some (77))))), some (.inl i)]) (st' := [.inl (i + (4)), .inr (.inr (.inr 100)), .inl (f (Int.toNat (i + (3)))), .inl (f (Int.toNat (i + (2)))), .inl (f (Int.toNat (i + (1)))), .inr (.inr (.inl (some (0))))]) (h' := h) rfl ?_
  refine wq_scr (p' := 1034) (cL_21_ok _ _ rfl) rfl ⟨by omega, by omega, by omega⟩ ?_
  refine av_wp_sqL cL_21_ok 4 (pc' := 1038) (lv' := [some (.inr (.inr (.inr 100))), some (.inr (.inr (.inl (some (0))))), some (.inr (.inr (.inl (some (77))))), some (.inl i)]) (st' := [.inl (i + (5)), .inr (.inr (.inr 100)), .inl (f (Int.toNat (i + (4)))), .inl (f (Int.toNat (i + (3)))), .inl (f (Int.toNat (i + (2)))), .inl (f (Int.toNat (i + (1)))), .inr (.inr (.inl (some (0))))]) (h' := h) rfl ?_
  refine wq_scr (p' := 1039) (cL_21_ok _ _ rfl) rfl ⟨by omega, by omega, by omega⟩ ?_
  refine wq_cv (p' := 1042) (av_qc (.invokevirtual 103) 117 5 0 7) 7 cd_117 [.inl (f (Int.toNat (i + (5)))), .inl (f (Int.toNat (i + (4)))), .inl (f (Int.toNat (i + (3)))), .inl (f (Int.toNat (i + (2)))), .inl (f (Int.toNat (i + (1))))] (0) 7 [some (.inr (.inr (.inl (some (0))))), some (.inl (f (Int.toNat (i + (1))))), some (.inl (f (Int.toNat (i + (2))))), some (.inl (f (Int.toNat (i + (3))))), some (.inl (f (Int.toNat (i + (4))))), some (.inl (f (Int.toNat (i + (5))))), none] (cL_21_ok _ _ rfl) rfl rfl pp_117 rfl rfl rfl (congrArg Prod.fst (ly_k B.1.1.1 0 rfl)) rfl rfl rfl rfl ?_
  refine av_wp_mono (oz_117 B (f (Int.toNat (i + (1)))) (f (Int.toNat (i + (2)))) (f (Int.toNat (i + (3)))) (f (Int.toNat (i + (4)))) (f (Int.toNat (i + (5)))) (hf _) (hf _) (hf _) (hf _) (hf _)) (fun v h1 z => ?_)
  obtain ⟨x, rfl, k77, W⟩ := z
  show av_wp (some (L, f)) cd_L 1042 [some (.inr (.inr (.inr 100))), some (.inr (.inr (.inl (some (0))))), some (.inr (.inr (.inl (some (77))))), some (.inl i)] [.inl x] h1 Q
  refine av_wp_sqL cL_21_ok 6 (pc' := 1048) (lv' := [some (.inr (.inr (.inr 100))), some (.inr (.inr (.inl (some (0))))), some (.inr (.inr (.inl (some (77))))), some (.inl i)]) (st' := [.inl (i + (1)), .inr (.inr (.inr 100)), .inr (.inr (.inl (some (77))))]) (h' := h1) rfl ?_
  refine wq_scr (p' := 1049) (cL_21_ok _ _ rfl) rfl ⟨by omega, by omega, by omega⟩ ?_
  refine av_wp_sqL cL_21_ok 4 (pc' := 1053) (lv' := [some (.inr (.inr (.inr 100))), some (.inr (.inr (.inl (some (0))))), some (.inr (.inr (.inl (some (77))))), some (.inl i)]) (st' := [.inl (i + (2)), .inr (.inr (.inr 100)), .inl (f (Int.toNat (i + (1)))), .inr (.inr (.inl (some (77))))]) (h' := h1) rfl ?_
  refine wq_scr (p' := 1054) (cL_21_ok _ _ rfl) rfl ⟨by omega, by omega, by omega⟩ ?_
  refine av_wp_sqL cL_21_ok 4 (pc' := 1058) (lv' := [some (.inr (.inr (.inr 100))), some (.inr (.inr (.inl (some (0))))), some (.inr (.inr (.inl (some (77))))), some (.inl i)]) (st' := [.inl (i + (3)), .inr (.inr (.inr 100)), .inl (f (Int.toNat (i + (2)))), .inl (f (Int.toNat (i + (1)))), .inr (.inr (.inl (some (77))))]) (h' := h1) rfl ?_
  refine wq_scr (p' := 1059) (cL_21_ok _ _ rfl) rfl ⟨by omega, by omega, by omega⟩ ?_
  refine av_wp_sqL cL_21_ok 4 (pc' := 1063) (lv' := [some (.inr (.inr (.inr 100))), some (.inr (.inr (.inl (some (0))))), some (.inr (.inr (.inl (some (77))))), some (.inl i)]) (st' := [.inl (i + (4)), .inr (.inr (.inr 100)), .inl (f (Int.toNat (i + (3)))), .inl (f (Int.toNat (i + (2)))), .inl (f (Int.toNat (i + (1)))), .inr (.inr (.inl (some (77))))]) (h' := h1) rfl ?_
  refine wq_scr (p' := 1064) (cL_21_ok _ _ rfl) rfl ⟨by omega, by omega, by omega⟩ ?_
  refine av_wp_sqL cL_21_ok 4 (pc' := 1068) (lv' := [some (.inr (.inr (.inr 100))), some (.inr (.inr (.inl (some (0))))), some (.inr (.inr (.inl (some (77))))), some (.inl i)]) (st' := [.inl (i + (5)), .inr (.inr (.inr 100)), .inl (f (Int.toNat (i + (4)))), .inl (f (Int.toNat (i + (3)))), .inl (f (Int.toNat (i + (2)))), .inl (f (Int.toNat (i + (1)))), .inr (.inr (.inl (some (77))))]) (h' := h1) rfl ?_
  refine wq_scr (p' := 1069) (cL_21_ok _ _ rfl) rfl ⟨by omega, by omega, by omega⟩ ?_
  refine wq_cv (p' := 1072) (av_qc (.invokevirtual 106) 207 5 0 8) 6 cd_207 [.inl (f (Int.toNat (i + (5)))), .inl (f (Int.toNat (i + (4)))), .inl (f (Int.toNat (i + (3)))), .inl (f (Int.toNat (i + (2)))), .inl (f (Int.toNat (i + (1))))] (77) 8 [some (.inr (.inr (.inl (some (77))))), some (.inl (f (Int.toNat (i + (1))))), some (.inl (f (Int.toNat (i + (2))))), some (.inl (f (Int.toNat (i + (3))))), some (.inl (f (Int.toNat (i + (4))))), some (.inl (f (Int.toNat (i + (5)))))] (cL_21_ok _ _ rfl) rfl rfl pp_207 rfl rfl rfl (congrArg Prod.fst k77) rfl rfl rfl rfl ?_
  refine av_wp_mono W (fun v h2 z => ?_)
  obtain ⟨y, rfl, e, B2, R2⟩ := z
  show av_wp (some (L, f)) cd_L 1072 [some (.inr (.inr (.inr 100))), some (.inr (.inr (.inl (some (0))))), some (.inr (.inr (.inl (some (77))))), some (.inl i)] [.inl y] h2 Q
  refine av_wp_sqL cL_21_ok 2 (pc' := 1284) (lv' := [some (.inr (.inr (.inr 100))), some (.inr (.inr (.inl (some (0))))), some (.inr (.inr (.inl (some (77))))), some (.inl i)]) (st' := []) (h' := h2) rfl ?_
  exact hk h2 B2 R2
def cL_22 : List (Nat × av_E) := [(1076, av_q (.aload_n 1)), (1077, av_q (.aload_n 0)), (1078, av_q (.iload_n 3)), (1079, av_q (.iconst 1)), (1080, av_q (.iadd)), (1081, av_q (.iaload)), (1082, av_q (.aload_n 0)), (1083, av_q (.iload_n 3)), (1084, av_q (.iconst 2)), (1085, av_q (.iadd)), (1086, av_q (.iaload)), (1087, av_q (.aload_n 0)), (1088, av_q (.iload_n 3)), (1089, av_q (.iconst 3)), (1090, av_q (.iadd)), (1091, av_q (.iaload)), (1092, av_q (.aload_n 0)), (1093, av_q (.iload_n 3)), (1094, av_q (.iconst 4)), (1095, av_q (.iadd)), (1096, av_q (.iaload)), (1097, av_q (.aload_n 0)), (1098, av_q (.iload_n 3)), (1099, av_q (.iconst 5)), (1100, av_q (.iadd)), (1101, av_q (.iaload)), (1102, av_qc (.invokevirtual 107) 118 5 0 7), (1105, av_q (.pop)), (1106, av_q (.aload_n 2)), (1107, av_q (.aload_n 0)), (1108, av_q (.iload_n 3)), (1109, av_q (.iconst 1)), (1110, av_q (.iadd)), (1111, av_q (.iaload)), (1112, av_q (.aload_n 0)), (1113, av_q (.iload_n 3)), (1114, av_q (.iconst 2)), (1115, av_q (.iadd)), (1116, av_q (.iaload)), (1117, av_q (.aload_n 0)), (1118, av_q (.iload_n 3)), (1119, av_q (.iconst 3)), (1120, av_q (.iadd)), (1121, av_q (.iaload)), (1122, av_q (.aload_n 0)), (1123, av_q (.iload_n 3)), (1124, av_q (.iconst 4)), (1125, av_q (.iadd)), (1126, av_q (.iaload)), (1127, av_q (.aload_n 0)), (1128, av_q (.iload_n 3)), (1129, av_q (.iconst 5)), (1130, av_q (.iadd)), (1131, av_q (.iaload)), (1132, av_qc (.invokevirtual 110) 208 5 0 8), (1135, av_q (.pop)), (1136, av_qa (.goto 148) 1284)]
set_option maxRecDepth 100000 in
set_option maxHeartbeats 8000000 in
theorem cL_22_ok : ∀ (pc : Nat) (x : av_E), cL_22.lookup pc = some x → cd_L.lookup pc = some x := av_lks (by decide +kernel)
set_option maxRecDepth 100000 in
set_option maxHeartbeats 8000000 in
theorem lo_22 {L : Nat} {f : Nat → Int} (hf : ∀ j, -2147483648 ≤ f j ∧ f j ≤ 2147483647) {i : Int} (hi : 0 ≤ i ∧ i + 6 ≤ (L : Int)) (hL : L ≤ 3072) {h : av_H} (B : BX h) {Q : Option av_V → av_H → Prop} (hk : ∀ h', BX h' → RM h h' → av_wp (some (L, f)) cd_L 1284 [some (.inr (.inr (.inr 100))), some (.inr (.inr (.inl (some (0))))), some (.inr (.inr (.inl (some (77))))), some (.inl i)] [] h' Q) : av_wp (some (L, f)) cd_L 1076 [some (.inr (.inr (.inr 100))), some (.inr (.inr (.inl (some (0))))), some (.inr (.inr (.inl (some (77))))), some (.inl i)] [] h Q := by
  refine av_wp_sqL cL_22_ok 5 (pc' := 1081) (lv' := [some (.inr (.inr (.inr 100))), some (.inr (.inr (.inl (some (0))))), some (.inr (.inr (.inl (some (77))))), some (.inl i)]) (st' := [.inl (i + (1)), .inr (.inr (.inr 100)), .inr (.inr (.inl (some (0))))]) (h' := h) rfl ?_
  refine wq_scr (p' := 1082) (cL_22_ok _ _ rfl) rfl ⟨by omega, by omega, by omega⟩ ?_
  refine av_wp_sqL cL_22_ok 4 (pc' := 1086) (lv' := [some (.inr (.inr (.inr 100))), some (.inr (.inr (.inl (some (0))))), some (.inr (.inr (.inl (some (77))))), some (.inl i)]) (st' := [.inl (i + (2)), .inr (.inr (.inr 100)), .inl (f (Int.toNat (i + (1)))), .inr (.inr (.inl (some (0))))]) (h' := h) rfl ?_
  refine wq_scr (p' := 1087) (cL_22_ok _ _ rfl) rfl ⟨by omega, by omega, by omega⟩ ?_
  refine av_wp_sqL cL_22_ok 4 (pc' := 1091) (lv' := [some (.inr (.inr (.inr 100))), some (.inr (.inr (.inl (some (0))))), some (.inr (.inr (.inl (some (77))))), some (.inl i)]) (st' := [.inl (i + (3)), .inr (.inr (.inr 100)), .inl (f (Int.toNat (i + (2)))), .inl (f (Int.toNat (i + (1)))), .inr (.inr (.inl (some (0))))]) (h' := h) rfl ?_
  refine wq_scr (p' := 1092) (cL_22_ok _ _ rfl) rfl ⟨by omega, by omega, by omega⟩ ?_
  refine av_wp_sqL cL_22_ok 4 (pc' := 1096) (lv' := [some (.inr (.inr (.inr 100))), some (.inr (.inr (.inl (some (0))))), some (.inr (.inr (.inl (some (77))))), some (.inl i)]) (st' := [.inl (i + (4)), .inr (.inr (.inr 100)), .inl (f (Int.toNat (i + (3)))), .inl (f (Int.toNat (i + (2)))), .inl (f (Int.toNat (i + (1)))), .inr (.inr (.inl (some (0))))]) (h' := h) rfl ?_
  refine wq_scr (p' := 1097) (cL_22_ok _ _ rfl) rfl ⟨by omega, by omega, by omega⟩ ?_
  refine av_wp_sqL cL_22_ok 4 (pc' := 1101) (lv' := [some (.inr (.inr (.inr 100))), some (.inr (.inr (.inl (some (0))))), some (.inr (.inr (.inl (some (77))))), some (.inl i)]) (st' := [.inl (i + (5)), .inr (.inr (.inr 100)), .inl (f (Int.toNat (i + (4)))), .inl (f (Int.toNat (i + (3)))), .inl (f (Int.toNat (i + (2)))), .inl (f (Int.toNat (i + (1)))), .inr (.inr (.inl (some (0))))]) (h' := h) rfl ?_
  refine wq_scr (p' := 1102) (cL_22_ok _ _ rfl) rfl ⟨by omega, by omega, by omega⟩ ?_
  refine wq_cv (p' := 1105) (av_qc (.invokevirtual 107) 118 5 0 7) 6 cd_118 [.inl (f (Int.toNat (i + (5)))), .inl (f (Int.toNat (i + (4)))), .inl (f (Int.toNat (i + (3)))), .inl (f (Int.toNat (i + (2)))), .inl (f (Int.toNat (i + (1))))] (0) 7 [some (.inr (.inr (.inl (some (0))))), some (.inl (f (Int.toNat (i + (1))))), some (.inl (f (Int.toNat (i + (2))))), some (.inl (f (Int.toNat (i + (3))))), some (.inl (f (Int.toNat (i + (4))))), some (.inl (f (Int.toNat (i + (5)))))] (cL_22_ok _ _ rfl) rfl rfl pp_118 rfl rfl rfl (congrArg Prod.fst (ly_k B.1.1.1 0 rfl)) rfl rfl rfl rfl ?_
  refine av_wp_mono (oz_118 B (f (Int.toNat (i + (1)))) (f (Int.toNat (i + (2)))) (f (Int.toNat (i + (3)))) (f (Int.toNat (i + (4)))) (f (Int.toNat (i + (5)))) (hf _) (hf _) (hf _) (hf _) (hf _)) (fun v h1 z => ?_)
  obtain ⟨x, rfl, k77, W⟩ := z
  show av_wp (some (L, f)) cd_L 1105 [some (.inr (.inr (.inr 100))), some (.inr (.inr (.inl (some (0))))), some (.inr (.inr (.inl (some (77))))), some (.inl i)] [.inl x] h1 Q
  refine av_wp_sqL cL_22_ok 6 (pc' := 1111) (lv' := [some (.inr (.inr (.inr 100))), some (.inr (.inr (.inl (some (0))))), some (.inr (.inr (.inl (some (77))))), some (.inl i)]) (st' := [.inl (i + (1)), .inr (.inr (.inr 100)), .inr (.inr (.inl (some (77))))]) (h' := h1) rfl ?_
  refine wq_scr (p' := 1112) (cL_22_ok _ _ rfl) rfl ⟨by omega, by omega, by omega⟩ ?_
  refine av_wp_sqL cL_22_ok 4 (pc' := 1116) (lv' := [some (.inr (.inr (.inr 100))), some (.inr (.inr (.inl (some (0))))), some (.inr (.inr (.inl (some (77))))), some (.inl i)]) (st' := [.inl (i + (2)), .inr (.inr (.inr 100)), .inl (f (Int.toNat (i + (1)))), .inr (.inr (.inl (some (77))))]) (h' := h1) rfl ?_
  refine wq_scr (p' := 1117) (cL_22_ok _ _ rfl) rfl ⟨by omega, by omega, by omega⟩ ?_
  refine av_wp_sqL cL_22_ok 4 (pc' := 1121) (lv' := [some (.inr (.inr (.inr 100))), some (.inr (.inr (.inl (some (0))))), some (.inr (.inr (.inl (some (77))))), some (.inl i)]) (st' := [.inl (i + (3)), .inr (.inr (.inr 100)), .inl (f (Int.toNat (i + (2)))), .inl (f (Int.toNat (i + (1)))), .inr (.inr (.inl (some (77))))]) (h' := h1) rfl ?_
  refine wq_scr (p' := 1122) (cL_22_ok _ _ rfl) rfl ⟨by omega, by omega, by omega⟩ ?_
  refine av_wp_sqL cL_22_ok 4 (pc' := 1126) (lv' := [some (.inr (.inr (.inr 100))), some (.inr (.inr (.inl (some (0))))), some (.inr (.inr (.inl (some (77))))), some (.inl i)]) (st' := [.inl (i + (4)), .inr (.inr (.inr 100)), .inl (f (Int.toNat (i + (3)))), .inl (f (Int.toNat (i + (2)))), .inl (f (Int.toNat (i + (1)))), .inr (.inr (.inl (some (77))))]) (h' := h1) rfl ?_
  refine wq_scr (p' := 1127) (cL_22_ok _ _ rfl) rfl ⟨by omega, by omega, by omega⟩ ?_
  refine av_wp_sqL cL_22_ok 4 (pc' := 1131) (lv' := [some (.inr (.inr (.inr 100))), some (.inr (.inr (.inl (some (0))))), some (.inr (.inr (.inl (some (77))))), some (.inl i)]) (st' := [.inl (i + (5)), .inr (.inr (.inr 100)), .inl (f (Int.toNat (i + (4)))), .inl (f (Int.toNat (i + (3)))), .inl (f (Int.toNat (i + (2)))), .inl (f (Int.toNat (i + (1)))), .inr (.inr (.inl (some (77))))]) (h' := h1) rfl ?_
  refine wq_scr (p' := 1132) (cL_22_ok _ _ rfl) rfl ⟨by omega, by omega, by omega⟩ ?_
  refine wq_cv (p' := 1135) (av_qc (.invokevirtual 110) 208 5 0 8) 7 cd_208 [.inl (f (Int.toNat (i + (5)))), .inl (f (Int.toNat (i + (4)))), .inl (f (Int.toNat (i + (3)))), .inl (f (Int.toNat (i + (2)))), .inl (f (Int.toNat (i + (1))))] (77) 8 [some (.inr (.inr (.inl (some (77))))), some (.inl (f (Int.toNat (i + (1))))), some (.inl (f (Int.toNat (i + (2))))), some (.inl (f (Int.toNat (i + (3))))), some (.inl (f (Int.toNat (i + (4))))), some (.inl (f (Int.toNat (i + (5))))), none] (cL_22_ok _ _ rfl) rfl rfl pp_208 rfl rfl rfl (congrArg Prod.fst k77) rfl rfl rfl rfl ?_
  refine av_wp_mono W (fun v h2 z => ?_)
  obtain ⟨y, rfl, e, B2, R2⟩ := z
  show av_wp (some (L, f)) cd_L 1135 [some (.inr (.inr (.inr 100))), some (.inr (.inr (.inl (some (0))))), some (.inr (.inr (.inl (some (77))))), some (.inl i)] [.inl y] h2 Q
  refine av_wp_sqL cL_22_ok 2 (pc' := 1284) (lv' := [some (.inr (.inr (.inr 100))), some (.inr (.inr (.inl (some (0))))), some (.inr (.inr (.inl (some (77))))), some (.inl i)]) (st' := []) (h' := h2) rfl ?_
  exact hk h2 B2 R2
def cL_23 : List (Nat × av_E) := [(1139, av_q (.aload_n 1)), (1140, av_q (.aload_n 0)), (1141, av_q (.iload_n 3)), (1142, av_q (.iconst 1)), (1143, av_q (.iadd)), (1144, av_q (.iaload)), (1145, av_q (.aload_n 0)), (1146, av_q (.iload_n 3)), (1147, av_q (.iconst 2)), (1148, av_q (.iadd)), (1149, av_q (.iaload)), (1150, av_q (.aload_n 0)), (1151, av_q (.iload_n 3)), (1152, av_q (.iconst 3)), (1153, av_q (.iadd)), (1154, av_q (.iaload)), (1155, av_qc (.invokevirtual 111) 120 3 0 7), (1158, av_q (.pop)), (1159, av_q (.aload_n 2)), (1160, av_q (.aload_n 0)), (1161, av_q (.iload_n 3)), (1162, av_q (.iconst 1)), (1163, av_q (.iadd)), (1164, av_q (.iaload)), (1165, av_q (.aload_n 0)), (1166, av_q (.iload_n 3)), (1167, av_q (.iconst 2)), (1168, av_q (.iadd)), (1169, av_q (.iaload)), (1170, av_q (.aload_n 0)), (1171, av_q (.iload_n 3)), (1172, av_q (.iconst 3)), (1173, av_q (.iadd)), (1174, av_q (.iaload)), (1175, av_qc (.invokevirtual 114) 211 3 0 8), (1178, av_q (.pop)), (1179, av_qa (.goto 105) 1284)]
set_option maxRecDepth 100000 in
set_option maxHeartbeats 8000000 in
theorem cL_23_ok : ∀ (pc : Nat) (x : av_E), cL_23.lookup pc = some x → cd_L.lookup pc = some x := av_lks (by decide +kernel)
set_option maxRecDepth 100000 in
set_option maxHeartbeats 8000000 in
theorem lo_23 {L : Nat} {f : Nat → Int} (hf : ∀ j, -2147483648 ≤ f j ∧ f j ≤ 2147483647) {i : Int} (hi : 0 ≤ i ∧ i + 6 ≤ (L : Int)) (hL : L ≤ 3072) {h : av_H} (B : BX h) {Q : Option av_V → av_H → Prop} (hk : ∀ h', BX h' → RM h h' → av_wp (some (L, f)) cd_L 1284 [some (.inr (.inr (.inr 100))), some (.inr (.inr (.inl (some (0))))), some (.inr (.inr (.inl (some (77))))), some (.inl i)] [] h' Q) : av_wp (some (L, f)) cd_L 1139 [some (.inr (.inr (.inr 100))), some (.inr (.inr (.inl (some (0))))), some (.inr (.inr (.inl (some (77))))), some (.inl i)] [] h Q := by
  refine av_wp_sqL cL_23_ok 5 (pc' := 1144) (lv' := [some (.inr (.inr (.inr 100))), some (.inr (.inr (.inl (some (0))))), some (.inr (.inr (.inl (some (77))))), some (.inl i)]) (st' := [.inl (i + (1)), .inr (.inr (.inr 100)), .inr (.inr (.inl (some (0))))]) (h' := h) rfl ?_
  refine wq_scr (p' := 1145) (cL_23_ok _ _ rfl) rfl ⟨by omega, by omega, by omega⟩ ?_
  refine av_wp_sqL cL_23_ok 4 (pc' := 1149) (lv' := [some (.inr (.inr (.inr 100))), some (.inr (.inr (.inl (some (0))))), some (.inr (.inr (.inl (some (77))))), some (.inl i)]) (st' := [.inl (i + (2)), .inr (.inr (.inr 100)), .inl (f (Int.toNat (i + (1)))), .inr (.inr (.inl (some (0))))]) (h' := h) rfl ?_
  refine wq_scr (p' := 1150) (cL_23_ok _ _ rfl) rfl ⟨by omega, by omega, by omega⟩ ?_
  refine av_wp_sqL cL_23_ok 4 (pc' := 1154) (lv' := [some (.inr (.inr (.inr 100))), some (.inr (.inr (.inl (some (0))))), some (.inr (.inr (.inl (some (77))))), some (.inl i)]) (st' := [.inl (i + (3)), .inr (.inr (.inr 100)), .inl (f (Int.toNat (i + (2)))), .inl (f (Int.toNat (i + (1)))), .inr (.inr (.inl (some (0))))]) (h' := h) rfl ?_
  refine wq_scr (p' := 1155) (cL_23_ok _ _ rfl) rfl ⟨by omega, by omega, by omega⟩ ?_
  refine wq_cv (p' := 1158) (av_qc (.invokevirtual 111) 120 3 0 7) 5 cd_120 [.inl (f (Int.toNat (i + (3)))), .inl (f (Int.toNat (i + (2)))), .inl (f (Int.toNat (i + (1))))] (0) 7 [some (.inr (.inr (.inl (some (0))))), some (.inl (f (Int.toNat (i + (1))))), some (.inl (f (Int.toNat (i + (2))))), some (.inl (f (Int.toNat (i + (3))))), none] (cL_23_ok _ _ rfl) rfl rfl pp_120 rfl rfl rfl (congrArg Prod.fst (ly_k B.1.1.1 0 rfl)) rfl rfl rfl rfl ?_
  refine av_wp_mono (oz_120 B (f (Int.toNat (i + (1)))) (f (Int.toNat (i + (2)))) (f (Int.toNat (i + (3)))) (hf _) (hf _) (hf _)) (fun v h1 z => ?_)
  obtain ⟨x, rfl, k77, W⟩ := z
  show av_wp (some (L, f)) cd_L 1158 [some (.inr (.inr (.inr 100))), some (.inr (.inr (.inl (some (0))))), some (.inr (.inr (.inl (some (77))))), some (.inl i)] [.inl x] h1 Q
  refine av_wp_sqL cL_23_ok 6 (pc' := 1164) (lv' := [some (.inr (.inr (.inr 100))), some (.inr (.inr (.inl (some (0))))), some (.inr (.inr (.inl (some (77))))), some (.inl i)]) (st' := [.inl (i + (1)), .inr (.inr (.inr 100)), .inr (.inr (.inl (some (77))))]) (h' := h1) rfl ?_
  refine wq_scr (p' := 1165) (cL_23_ok _ _ rfl) rfl ⟨by omega, by omega, by omega⟩ ?_
  refine av_wp_sqL cL_23_ok 4 (pc' := 1169) (lv' := [some (.inr (.inr (.inr 100))), some (.inr (.inr (.inl (some (0))))), some (.inr (.inr (.inl (some (77))))), some (.inl i)]) (st' := [.inl (i + (2)), .inr (.inr (.inr 100)), .inl (f (Int.toNat (i + (1)))), .inr (.inr (.inl (some (77))))]) (h' := h1) rfl ?_
  refine wq_scr (p' := 1170) (cL_23_ok _ _ rfl) rfl ⟨by omega, by omega, by omega⟩ ?_
  refine av_wp_sqL cL_23_ok 4 (pc' := 1174) (lv' := [some (.inr (.inr (.inr 100))), some (.inr (.inr (.inl (some (0))))), some (.inr (.inr (.inl (some (77))))), some (.inl i)]) (st' := [.inl (i + (3)), .inr (.inr (.inr 100)), .inl (f (Int.toNat (i + (2)))), .inl (f (Int.toNat (i + (1)))), .inr (.inr (.inl (some (77))))]) (h' := h1) rfl ?_
  refine wq_scr (p' := 1175) (cL_23_ok _ _ rfl) rfl ⟨by omega, by omega, by omega⟩ ?_
  refine wq_cv (p' := 1178) (av_qc (.invokevirtual 114) 211 3 0 8) 4 cd_211 [.inl (f (Int.toNat (i + (3)))), .inl (f (Int.toNat (i + (2)))), .inl (f (Int.toNat (i + (1))))] (77) 8 [some (.inr (.inr (.inl (some (77))))), some (.inl (f (Int.toNat (i + (1))))), some (.inl (f (Int.toNat (i + (2))))), some (.inl (f (Int.toNat (i + (3)))))] (cL_23_ok _ _ rfl) rfl rfl pp_211 rfl rfl rfl (congrArg Prod.fst k77) rfl rfl rfl rfl ?_
  refine av_wp_mono W (fun v h2 z => ?_)
  obtain ⟨y, rfl, e, B2, R2⟩ := z
  show av_wp (some (L, f)) cd_L 1178 [some (.inr (.inr (.inr 100))), some (.inr (.inr (.inl (some (0))))), some (.inr (.inr (.inl (some (77))))), some (.inl i)] [.inl y] h2 Q
  refine av_wp_sqL cL_23_ok 2 (pc' := 1284) (lv' := [some (.inr (.inr (.inr 100))), some (.inr (.inr (.inl (some (0))))), some (.inr (.inr (.inl (some (77))))), some (.inl i)]) (st' := []) (h' := h2) rfl ?_
  exact hk h2 B2 R2
def cL_24 : List (Nat × av_E) := [(1182, av_q (.aload_n 1)), (1183, av_q (.aload_n 0)), (1184, av_q (.iload_n 3)), (1185, av_q (.iconst 1)), (1186, av_q (.iadd)), (1187, av_q (.iaload)), (1188, av_q (.aload_n 0)), (1189, av_q (.iload_n 3)), (1190, av_q (.iconst 2)), (1191, av_q (.iadd)), (1192, av_q (.iaload)), (1193, av_q (.aload_n 0)), (1194, av_q (.iload_n 3)), (1195, av_q (.iconst 3)), (1196, av_q (.iadd)), (1197, av_q (.iaload)), (1198, av_qc (.invokevirtual 115) 121 3 0 7), (1201, av_q (.aload_n 2)), (1202, av_q (.aload_n 0)), (1203, av_q (.iload_n 3)), (1204, av_q (.iconst 1)), (1205, av_q (.iadd)), (1206, av_q (.iaload)), (1207, av_q (.aload_n 0)), (1208, av_q (.iload_n 3)), (1209, av_q (.iconst 2)), (1210, av_q (.iadd)), (1211, av_q (.iaload)), (1212, av_q (.aload_n 0)), (1213, av_q (.iload_n 3)), (1214, av_q (.iconst 3)), (1215, av_q (.iadd)), (1216, av_q (.iaload)), (1217, av_qc (.invokevirtual 118) 212 3 0 8), (1220, av_qa (.if_icmp .eq 64) 1284)]
set_option maxRecDepth 100000 in
set_option maxHeartbeats 8000000 in
theorem cL_24_ok : ∀ (pc : Nat) (x : av_E), cL_24.lookup pc = some x → cd_L.lookup pc = some x := av_lks (by decide +kernel)
set_option maxRecDepth 100000 in
set_option maxHeartbeats 8000000 in
theorem lo_24 {L : Nat} {f : Nat → Int} (hf : ∀ j, -2147483648 ≤ f j ∧ f j ≤ 2147483647) {i : Int} (hi : 0 ≤ i ∧ i + 6 ≤ (L : Int)) (hL : L ≤ 3072) {h : av_H} (B : BX h) {Q : Option av_V → av_H → Prop} (hk : ∀ h', BX h' → RM h h' → av_wp (some (L, f)) cd_L 1284 [some (.inr (.inr (.inr 100))), some (.inr (.inr (.inl (some (0))))), some (.inr (.inr (.inl (some (77))))), some (.inl i)] [] h' Q) : av_wp (some (L, f)) cd_L 1182 [some (.inr (.inr (.inr 100))), some (.inr (.inr (.inl (some (0))))), some (.inr (.inr (.inl (some (77))))), some (.inl i)] [] h Q := by
  refine av_wp_sqL cL_24_ok 5 (pc' := 1187) (lv' := [some (.inr (.inr (.inr 100))), some (.inr (.inr (.inl (some (0))))), some (.inr (.inr (.inl (some (77))))), some (.inl i)]) (st' := [.inl (i + (1)), .inr (.inr (.inr 100)), .inr (.inr (.inl (some (0))))]) (h' := h) rfl ?_
  refine wq_scr (p' := 1188) (cL_24_ok _ _ rfl) rfl ⟨by omega, by omega, by omega⟩ ?_
  refine av_wp_sqL cL_24_ok 4 (pc' := 1192) (lv' := [some (.inr (.inr (.inr 100))), some (.inr (.inr (.inl (some (0))))), some (.inr (.inr (.inl (some (77))))), some (.inl i)]) (st' := [.inl (i + (2)), .inr (.inr (.inr 100)), .inl (f (Int.toNat (i + (1)))), .inr (.inr (.inl (some (0))))]) (h' := h) rfl ?_
  refine wq_scr (p' := 1193) (cL_24_ok _ _ rfl) rfl ⟨by omega, by omega, by omega⟩ ?_
  refine av_wp_sqL cL_24_ok 4 (pc' := 1197) (lv' := [some (.inr (.inr (.inr 100))), some (.inr (.inr (.inl (some (0))))), some (.inr (.inr (.inl (some (77))))), some (.inl i)]) (st' := [.inl (i + (3)), .inr (.inr (.inr 100)), .inl (f (Int.toNat (i + (2)))), .inl (f (Int.toNat (i + (1)))), .inr (.inr (.inl (some (0))))]) (h' := h) rfl ?_
  refine wq_scr (p' := 1198) (cL_24_ok _ _ rfl) rfl ⟨by omega, by omega, by omega⟩ ?_
  refine wq_cv (p' := 1201) (av_qc (.invokevirtual 115) 121 3 0 7) 5 cd_121 [.inl (f (Int.toNat (i + (3)))), .inl (f (Int.toNat (i + (2)))), .inl (f (Int.toNat (i + (1))))] (0) 7 [some (.inr (.inr (.inl (some (0))))), some (.inl (f (Int.toNat (i + (1))))), some (.inl (f (Int.toNat (i + (2))))), some (.inl (f (Int.toNat (i + (3))))), none] (cL_24_ok _ _ rfl) rfl rfl pp_121 rfl rfl rfl (congrArg Prod.fst (ly_k B.1.1.1 0 rfl)) rfl rfl rfl rfl ?_
  refine av_wp_mono (oz_121 B (f (Int.toNat (i + (1)))) (f (Int.toNat (i + (2)))) (f (Int.toNat (i + (3)))) (hf _) (hf _) (hf _)) (fun v h1 z => ?_)
  obtain ⟨x, rfl, k77, W⟩ := z
  show av_wp (some (L, f)) cd_L 1201 [some (.inr (.inr (.inr 100))), some (.inr (.inr (.inl (some (0))))), some (.inr (.inr (.inl (some (77))))), some (.inl i)] [.inl x] h1 Q
  refine av_wp_sqL cL_24_ok 5 (pc' := 1206) (lv' := [some (.inr (.inr (.inr 100))), some (.inr (.inr (.inl (some (0))))), some (.inr (.inr (.inl (some (77))))), some (.inl i)]) (st' := [.inl (i + (1)), .inr (.inr (.inr 100)), .inr (.inr (.inl (some (77)))), .inl x]) (h' := h1) rfl ?_
  refine wq_scr (p' := 1207) (cL_24_ok _ _ rfl) rfl ⟨by omega, by omega, by omega⟩ ?_
  refine av_wp_sqL cL_24_ok 4 (pc' := 1211) (lv' := [some (.inr (.inr (.inr 100))), some (.inr (.inr (.inl (some (0))))), some (.inr (.inr (.inl (some (77))))), some (.inl i)]) (st' := [.inl (i + (2)), .inr (.inr (.inr 100)), .inl (f (Int.toNat (i + (1)))), .inr (.inr (.inl (some (77)))), .inl x]) (h' := h1) rfl ?_
  refine wq_scr (p' := 1212) (cL_24_ok _ _ rfl) rfl ⟨by omega, by omega, by omega⟩ ?_
  refine av_wp_sqL cL_24_ok 4 (pc' := 1216) (lv' := [some (.inr (.inr (.inr 100))), some (.inr (.inr (.inl (some (0))))), some (.inr (.inr (.inl (some (77))))), some (.inl i)]) (st' := [.inl (i + (3)), .inr (.inr (.inr 100)), .inl (f (Int.toNat (i + (2)))), .inl (f (Int.toNat (i + (1)))), .inr (.inr (.inl (some (77)))), .inl x]) (h' := h1) rfl ?_
  refine wq_scr (p' := 1217) (cL_24_ok _ _ rfl) rfl ⟨by omega, by omega, by omega⟩ ?_
  refine wq_cv (p' := 1220) (av_qc (.invokevirtual 118) 212 3 0 8) 5 cd_212 [.inl (f (Int.toNat (i + (3)))), .inl (f (Int.toNat (i + (2)))), .inl (f (Int.toNat (i + (1))))] (77) 8 [some (.inr (.inr (.inl (some (77))))), some (.inl (f (Int.toNat (i + (1))))), some (.inl (f (Int.toNat (i + (2))))), some (.inl (f (Int.toNat (i + (3))))), none] (cL_24_ok _ _ rfl) rfl rfl pp_212 rfl rfl rfl (congrArg Prod.fst k77) rfl rfl rfl rfl ?_
  refine av_wp_mono W (fun v h2 z => ?_)
  obtain ⟨y, rfl, e, B2, R2⟩ := z
  show av_wp (some (L, f)) cd_L 1220 [some (.inr (.inr (.inr 100))), some (.inr (.inr (.inl (some (0))))), some (.inr (.inr (.inl (some (77))))), some (.inl i)] [.inl y, .inl x] h2 Q
  subst e
  exact wq_w2 (p' := 1223) (cL_24_ok _ _ rfl) rfl (fun _ => hk h2 B2 R2) (fun c => absurd rfl c)
def cL_25 : List (Nat × av_E) := [(1225, av_q (.aload_n 1)), (1226, av_qc (.invokevirtual 119) 123 0 0 7), (1229, av_q (.pop)), (1230, av_q (.aload_n 2)), (1231, av_qc (.invokevirtual 122) 214 0 0 8), (1234, av_q (.pop)), (1235, av_qa (.goto 49) 1284)]
set_option maxRecDepth 100000 in
set_option maxHeartbeats 8000000 in
theorem cL_25_ok : ∀ (pc : Nat) (x : av_E), cL_25.lookup pc = some x → cd_L.lookup pc = some x := av_lks (by decide +kernel)
set_option maxRecDepth 100000 in
set_option maxHeartbeats 8000000 in
theorem lo_25 {L : Nat} {f : Nat → Int} (hf : ∀ j, -2147483648 ≤ f j ∧ f j ≤ 2147483647) {i : Int} (hi : 0 ≤ i ∧ i + 6 ≤ (L : Int)) (hL : L ≤ 3072) {h : av_H} (B : BX h) {Q : Option av_V → av_H → Prop} (hk : ∀ h', BX h' → RM h h' → av_wp (some (L, f)) cd_L 1284 [some (.inr (.inr (.inr 100))), some (.inr (.inr (.inl (some (0))))), some (.inr (.inr (.inl (some (77))))), some (.inl i)] [] h' Q) : av_wp (some (L, f)) cd_L 1225 [some (.inr (.inr (.inr 100))), some (.inr (.inr (.inl (some (0))))), some (.inr (.inr (.inl (some (77))))), some (.inl i)] [] h Q := by
  refine av_wp_sqL cL_25_ok 1 (pc' := 1226) (lv' := [some (.inr (.inr (.inr 100))), some (.inr (.inr (.inl (some (0))))), some (.inr (.inr (.inl (some (77))))), some (.inl i)]) (st' := [.inr (.inr (.inl (some (0))))]) (h' := h) rfl ?_
  refine wq_cv (p' := 1229) (av_qc (.invokevirtual 119) 123 0 0 7) 2 cd_123 [] (0) 7 [some (.inr (.inr (.inl (some (0))))), none] (cL_25_ok _ _ rfl) rfl rfl pp_123 rfl rfl rfl (congrArg Prod.fst (ly_k B.1.1.1 0 rfl)) rfl rfl rfl rfl ?_
  refine av_wp_mono (oz_image B  ) (fun v h1 z => ?_)
  obtain ⟨x, rfl, k77, W⟩ := z
  show av_wp (some (L, f)) cd_L 1229 [some (.inr (.inr (.inr 100))), some (.inr (.inr (.inl (some (0))))), some (.inr (.inr (.inl (some (77))))), some (.inl i)] [.inl x] h1 Q
  refine av_wp_sqL cL_25_ok 2 (pc' := 1231) (lv' := [some (.inr (.inr (.inr 100))), some (.inr (.inr (.inl (some (0))))), some (.inr (.inr (.inl (some (77))))), some (.inl i)]) (st' := [.inr (.inr (.inl (some (77))))]) (h' := h1) rfl ?_
  refine wq_cv (p' := 1234) (av_qc (.invokevirtual 122) 214 0 0 8) 1 cd_214 [] (77) 8 [some (.inr (.inr (.inl (some (77)))))] (cL_25_ok _ _ rfl) rfl rfl pp_214 rfl rfl rfl (congrArg Prod.fst k77) rfl rfl rfl rfl ?_
  refine av_wp_mono W (fun v h2 z => ?_)
  obtain ⟨y, rfl, e, B2, R2⟩ := z
  show av_wp (some (L, f)) cd_L 1234 [some (.inr (.inr (.inr 100))), some (.inr (.inr (.inl (some (0))))), some (.inr (.inr (.inl (some (77))))), some (.inl i)] [.inl y] h2 Q
  refine av_wp_sqL cL_25_ok 2 (pc' := 1284) (lv' := [some (.inr (.inr (.inr 100))), some (.inr (.inr (.inl (some (0))))), some (.inr (.inr (.inl (some (77))))), some (.inl i)]) (st' := []) (h' := h2) rfl ?_
  exact hk h2 B2 R2
def cL_26 : List (Nat × av_E) := [(1238, av_q (.aload_n 1)), (1239, av_q (.aload_n 0)), (1240, av_q (.iload_n 3)), (1241, av_q (.iconst 1)), (1242, av_q (.iadd)), (1243, av_q (.iaload)), (1244, av_qc (.invokevirtual 123) 124 1 0 7), (1247, av_q (.pop)), (1248, av_q (.aload_n 2)), (1249, av_q (.aload_n 0)), (1250, av_q (.iload_n 3)), (1251, av_q (.iconst 1)), (1252, av_q (.iadd)), (1253, av_q (.iaload)), (1254, av_qc (.invokevirtual 127) 215 1 0 8), (1257, av_q (.pop)), (1258, av_qa (.goto 26) 1284)]
set_option maxRecDepth 100000 in
set_option maxHeartbeats 8000000 in
theorem cL_26_ok : ∀ (pc : Nat) (x : av_E), cL_26.lookup pc = some x → cd_L.lookup pc = some x := av_lks (by decide +kernel)
set_option maxRecDepth 100000 in
set_option maxHeartbeats 8000000 in
theorem lo_26 {L : Nat} {f : Nat → Int} (hf : ∀ j, -2147483648 ≤ f j ∧ f j ≤ 2147483647) {i : Int} (hi : 0 ≤ i ∧ i + 6 ≤ (L : Int)) (hL : L ≤ 3072) {h : av_H} (B : BX h) {Q : Option av_V → av_H → Prop} (hk : ∀ h', BX h' → RM h h' → av_wp (some (L, f)) cd_L 1284 [some (.inr (.inr (.inr 100))), some (.inr (.inr (.inl (some (0))))), some (.inr (.inr (.inl (some (77))))), some (.inl i)] [] h' Q) : av_wp (some (L, f)) cd_L 1238 [some (.inr (.inr (.inr 100))), some (.inr (.inr (.inl (some (0))))), some (.inr (.inr (.inl (some (77))))), some (.inl i)] [] h Q := by
  refine av_wp_sqL cL_26_ok 5 (pc' := 1243) (lv' := [some (.inr (.inr (.inr 100))), some (.inr (.inr (.inl (some (0))))), some (.inr (.inr (.inl (some (77))))), some (.inl i)]) (st' := [.inl (i + (1)), .inr (.inr (.inr 100)), .inr (.inr (.inl (some (0))))]) (h' := h) rfl ?_
  refine wq_scr (p' := 1244) (cL_26_ok _ _ rfl) rfl ⟨by omega, by omega, by omega⟩ ?_
  refine wq_cv (p' := 1247) (av_qc (.invokevirtual 123) 124 1 0 7) 2 cd_124 [.inl (f (Int.toNat (i + (1))))] (0) 7 [some (.inr (.inr (.inl (some (0))))), some (.inl (f (Int.toNat (i + (1)))))] (cL_26_ok _ _ rfl) rfl rfl pp_124 rfl rfl rfl (congrArg Prod.fst (ly_k B.1.1.1 0 rfl)) rfl rfl rfl rfl ?_
  refine av_wp_mono (oz_back B (f (Int.toNat (i + (1)))) (hf _)) (fun v h1 z => ?_)
  obtain ⟨x, rfl, k77, W⟩ := z
  show av_wp (some (L, f)) cd_L 1247 [some (.inr (.inr (.inr 100))), some (.inr (.inr (.inl (some (0))))), some (.inr (.inr (.inl (some (77))))), some (.inl i)] [.inl x] h1 Q
  refine av_wp_sqL cL_26_ok 6 (pc' := 1253) (lv' := [some (.inr (.inr (.inr 100))), some (.inr (.inr (.inl (some (0))))), some (.inr (.inr (.inl (some (77))))), some (.inl i)]) (st' := [.inl (i + (1)), .inr (.inr (.inr 100)), .inr (.inr (.inl (some (77))))]) (h' := h1) rfl ?_
  refine wq_scr (p' := 1254) (cL_26_ok _ _ rfl) rfl ⟨by omega, by omega, by omega⟩ ?_
  refine wq_cv (p' := 1257) (av_qc (.invokevirtual 127) 215 1 0 8) 2 cd_215 [.inl (f (Int.toNat (i + (1))))] (77) 8 [some (.inr (.inr (.inl (some (77))))), some (.inl (f (Int.toNat (i + (1)))))] (cL_26_ok _ _ rfl) rfl rfl pp_215 rfl rfl rfl (congrArg Prod.fst k77) rfl rfl rfl rfl ?_
  refine av_wp_mono W (fun v h2 z => ?_)
  obtain ⟨y, rfl, e, B2, R2⟩ := z
  show av_wp (some (L, f)) cd_L 1257 [some (.inr (.inr (.inr 100))), some (.inr (.inr (.inl (some (0))))), some (.inr (.inr (.inl (some (77))))), some (.inl i)] [.inl y] h2 Q
  refine av_wp_sqL cL_26_ok 2 (pc' := 1284) (lv' := [some (.inr (.inr (.inr 100))), some (.inr (.inr (.inl (some (0))))), some (.inr (.inr (.inl (some (77))))), some (.inl i)]) (st' := []) (h' := h2) rfl ?_
  exact hk h2 B2 R2
def cL_27 : List (Nat × av_E) := [(1261, av_q (.aload_n 1)), (1262, av_q (.aload_n 0)), (1263, av_q (.iload_n 3)), (1264, av_q (.iconst 1)), (1265, av_q (.iadd)), (1266, av_q (.iaload)), (1267, av_qc (.invokevirtual 128) 125 1 0 7), (1270, av_q (.pop)), (1271, av_q (.aload_n 2)), (1272, av_q (.aload_n 0)), (1273, av_q (.iload_n 3)), (1274, av_q (.iconst 1)), (1275, av_q (.iadd)), (1276, av_q (.iaload)), (1277, av_qc (.invokevirtual 131) 217 1 0 8), (1280, av_q (.pop)), (1281, av_qa (.goto 3) 1284)]
set_option maxRecDepth 100000 in
set_option maxHeartbeats 8000000 in
theorem cL_27_ok : ∀ (pc : Nat) (x : av_E), cL_27.lookup pc = some x → cd_L.lookup pc = some x := av_lks (by decide +kernel)
set_option maxRecDepth 100000 in
set_option maxHeartbeats 8000000 in
theorem lo_27 {L : Nat} {f : Nat → Int} (hf : ∀ j, -2147483648 ≤ f j ∧ f j ≤ 2147483647) {i : Int} (hi : 0 ≤ i ∧ i + 6 ≤ (L : Int)) (hL : L ≤ 3072) {h : av_H} (B : BX h) {Q : Option av_V → av_H → Prop} (hk : ∀ h', BX h' → RM h h' → av_wp (some (L, f)) cd_L 1284 [some (.inr (.inr (.inr 100))), some (.inr (.inr (.inl (some (0))))), some (.inr (.inr (.inl (some (77))))), some (.inl i)] [] h' Q) : av_wp (some (L, f)) cd_L 1261 [some (.inr (.inr (.inr 100))), some (.inr (.inr (.inl (some (0))))), some (.inr (.inr (.inl (some (77))))), some (.inl i)] [] h Q := by
  refine av_wp_sqL cL_27_ok 5 (pc' := 1266) (lv' := [some (.inr (.inr (.inr 100))), some (.inr (.inr (.inl (some (0))))), some (.inr (.inr (.inl (some (77))))), some (.inl i)]) (st' := [.inl (i + (1)), .inr (.inr (.inr 100)), .inr (.inr (.inl (some (0))))]) (h' := h) rfl ?_
  refine wq_scr (p' := 1267) (cL_27_ok _ _ rfl) rfl ⟨by omega, by omega, by omega⟩ ?_
  refine wq_cv (p' := 1270) (av_qc (.invokevirtual 128) 125 1 0 7) 2 cd_125 [.inl (f (Int.toNat (i + (1))))] (0) 7 [some (.inr (.inr (.inl (some (0))))), some (.inl (f (Int.toNat (i + (1)))))] (cL_27_ok _ _ rfl) rfl rfl pp_125 rfl rfl rfl (congrArg Prod.fst (ly_k B.1.1.1 0 rfl)) rfl rfl rfl rfl ?_
  refine av_wp_mono (oz_125 B (f (Int.toNat (i + (1)))) (hf _)) (fun v h1 z => ?_)
  obtain ⟨x, rfl, k77, W⟩ := z
  show av_wp (some (L, f)) cd_L 1270 [some (.inr (.inr (.inr 100))), some (.inr (.inr (.inl (some (0))))), some (.inr (.inr (.inl (some (77))))), some (.inl i)] [.inl x] h1 Q
  refine av_wp_sqL cL_27_ok 6 (pc' := 1276) (lv' := [some (.inr (.inr (.inr 100))), some (.inr (.inr (.inl (some (0))))), some (.inr (.inr (.inl (some (77))))), some (.inl i)]) (st' := [.inl (i + (1)), .inr (.inr (.inr 100)), .inr (.inr (.inl (some (77))))]) (h' := h1) rfl ?_
  refine wq_scr (p' := 1277) (cL_27_ok _ _ rfl) rfl ⟨by omega, by omega, by omega⟩ ?_
  refine wq_cv (p' := 1280) (av_qc (.invokevirtual 131) 217 1 0 8) 2 cd_217 [.inl (f (Int.toNat (i + (1))))] (77) 8 [some (.inr (.inr (.inl (some (77))))), some (.inl (f (Int.toNat (i + (1)))))] (cL_27_ok _ _ rfl) rfl rfl pp_217 rfl rfl rfl (congrArg Prod.fst k77) rfl rfl rfl rfl ?_
  refine av_wp_mono W (fun v h2 z => ?_)
  obtain ⟨y, rfl, e, B2, R2⟩ := z
  show av_wp (some (L, f)) cd_L 1280 [some (.inr (.inr (.inr 100))), some (.inr (.inr (.inl (some (0))))), some (.inr (.inr (.inl (some (77))))), some (.inl i)] [.inl y] h2 Q
  refine av_wp_sqL cL_27_ok 2 (pc' := 1284) (lv' := [some (.inr (.inr (.inr 100))), some (.inr (.inr (.inl (some (0))))), some (.inr (.inr (.inl (some (77))))), some (.inl i)]) (st' := []) (h' := h2) rfl ?_
  exact hk h2 B2 R2
set_option maxRecDepth 100000 in
set_option maxHeartbeats 8000000 in
theorem lo_all {L : Nat} {f : Nat → Int} (hf : ∀ j, -2147483648 ≤ f j ∧ f j ≤ 2147483647) (hL : L ≤ 3072) : ∀ (m k : Nat) (h : av_H), 600 - k = m → BX h → 6 * k ≤ L + 6 → h.1 ≤ 122 + 20 * k → h.2.1 ≤ 60000 + 600 * k → av_wp (some (L, f)) cd_L 18 [some (.inr (.inr (.inr 100))), some (.inr (.inr (.inl (some (0))))), some (.inr (.inr (.inl (some (77))))), some (.inl ((6 * k : Nat) : Int))] [] h (fun v h' => v = some (.inl 1) ∧ h'.1 ≤ 600000 ∧ h'.2.1 ≤ 7302250) := by
  intro m
  induction m with
  | zero =>
    intro k h hm B h6 r1 r2
    exfalso
    omega
  | succ m ih =>
    intro k h hm B h6 r1 r2
    refine av_wp_seq 5 (pc' := 24) (lv' := [some (.inr (.inr (.inr 100))), some (.inr (.inr (.inl (some (0))))), some (.inr (.inr (.inl (some (77))))), some (.inl ((6 * k : Nat) : Int))]) (st' := [.inl ((L : Int) - (6)), .inl ((6 * k : Nat) : Int)]) (h' := h) rfl ?_
    refine wq_k2 (p' := 27) rfl rfl ⟨by omega, by omega⟩ ⟨by omega, by omega⟩ (fun c1 => ?_) (fun c2 => ?_)
    · refine av_wp_seq 1 (pc' := 1291) (lv' := [some (.inr (.inr (.inr 100))), some (.inr (.inr (.inl (some (0))))), some (.inr (.inr (.inl (some (77))))), some (.inl ((6 * k : Nat) : Int))]) (st' := [.inl (1)]) (h' := h) rfl ?_
      exact wq_rb rfl (Or.inr rfl) ⟨rfl, by omega, by omega⟩
    · have c2 : ((6 * k : Nat) : Int) ≤ (L : Int) - (6) := c2
      have nx : ∀ h', BX h' → RM h h' → av_wp (some (L, f)) cd_L 1284 [some (.inr (.inr (.inr 100))), some (.inr (.inr (.inl (some (0))))), some (.inr (.inr (.inl (some (77))))), some (.inl ((6 * k : Nat) : Int))] [] h' (fun v h' => v = some (.inl 1) ∧ h'.1 ≤ 600000 ∧ h'.2.1 ≤ 7302250) := fun h' B' R' => by
        refine av_wp_seq 2 (pc' := 18) (lv' := [some (.inr (.inr (.inr 100))), some (.inr (.inr (.inl (some (0))))), some (.inr (.inr (.inl (some (77))))), some (.inl (((6 * k : Nat) : Int) + (6)))]) (st' := []) (h' := h') rfl ?_
        rw [show ((6 * k : Nat) : Int) + (6) = ((6 * (k + 1) : Nat) : Int) by omega]
        exact ih (k + 1) h' (by omega) B' (by omega) (by have := R'.1; omega) (by have := R'.2; omega)
      refine av_wp_seq 2 (pc' := 29) (lv' := [some (.inr (.inr (.inr 100))), some (.inr (.inr (.inl (some (0))))), some (.inr (.inr (.inl (some (77))))), some (.inl ((6 * k : Nat) : Int))]) (st' := [.inl ((6 * k : Nat) : Int), .inr (.inr (.inr 100))]) (h' := h) rfl ?_
      refine wq_scr (p' := 30) rfl rfl ⟨by omega, by omega, by omega⟩ ?_
      refine av_wp_seq 2 (pc' := 33) (lv' := [some (.inr (.inr (.inr 100))), some (.inr (.inr (.inl (some (0))))), some (.inr (.inr (.inl (some (77))))), some (.inl ((6 * k : Nat) : Int))]) (st' := [.inl (av_and (f (Int.toNat ((6 * k : Nat) : Int))) (31))]) (h' := h) rfl ?_
      obtain ⟨c, hc, e⟩ := av_and31 (f (Int.toNat ((6 * k : Nat) : Int)))
      rw [e]
      clear e
      match c, hc with
      | 0, _ => exact wq_tc (c := 0) rfl rfl rfl (lo_0 hf ⟨by omega, by omega⟩ hL B nx)
      | 1, _ => exact wq_tc (c := 1) rfl rfl rfl (lo_1 hf ⟨by omega, by omega⟩ hL B nx)
      | 2, _ => exact wq_tc (c := 2) rfl rfl rfl (lo_2 hf ⟨by omega, by omega⟩ hL B nx)
      | 3, _ => exact wq_tc (c := 3) rfl rfl rfl (lo_3 hf ⟨by omega, by omega⟩ hL B nx)
      | 4, _ => exact wq_tc (c := 4) rfl rfl rfl (lo_4 hf ⟨by omega, by omega⟩ hL B nx)
      | 5, _ => exact wq_tc (c := 5) rfl rfl rfl (lo_5 hf ⟨by omega, by omega⟩ hL B nx)
      | 6, _ => exact wq_tc (c := 6) rfl rfl rfl (lo_6 hf ⟨by omega, by omega⟩ hL B nx)
      | 7, _ => exact wq_tc (c := 7) rfl rfl rfl (lo_7 hf ⟨by omega, by omega⟩ hL B nx)
      | 8, _ => exact wq_tc (c := 8) rfl rfl rfl (lo_8 hf ⟨by omega, by omega⟩ hL B nx)
      | 9, _ => exact wq_tc (c := 9) rfl rfl rfl (lo_9 hf ⟨by omega, by omega⟩ hL B nx)
      | 10, _ => exact wq_tc (c := 10) rfl rfl rfl (lo_10 hf ⟨by omega, by omega⟩ hL B nx)
      | 11, _ => exact wq_tc (c := 11) rfl rfl rfl (lo_11 hf ⟨by omega, by omega⟩ hL B nx)
      | 12, _ => exact wq_tc (c := 12) rfl rfl rfl (lo_12 hf ⟨by omega, by omega⟩ hL B nx)
      | 13, _ => exact wq_tc (c := 13) rfl rfl rfl (lo_13 hf ⟨by omega, by omega⟩ hL B nx)
      | 14, _ => exact wq_tc (c := 14) rfl rfl rfl (lo_14 hf ⟨by omega, by omega⟩ hL B nx)
      | 15, _ => exact wq_tc (c := 15) rfl rfl rfl (lo_15 hf ⟨by omega, by omega⟩ hL B nx)
      | 16, _ => exact wq_tc (c := 16) rfl rfl rfl (lo_16 hf ⟨by omega, by omega⟩ hL B nx)
      | 17, _ => exact wq_tc (c := 17) rfl rfl rfl (lo_17 hf ⟨by omega, by omega⟩ hL B nx)
      | 18, _ => exact wq_tc (c := 18) rfl rfl rfl (lo_18 hf ⟨by omega, by omega⟩ hL B nx)
      | 19, _ => exact wq_tc (c := 19) rfl rfl rfl (lo_19 hf ⟨by omega, by omega⟩ hL B nx)
      | 20, _ => exact wq_tc (c := 20) rfl rfl rfl (lo_20 hf ⟨by omega, by omega⟩ hL B nx)
      | 21, _ => exact wq_tc (c := 21) rfl rfl rfl (lo_21 hf ⟨by omega, by omega⟩ hL B nx)
      | 22, _ => exact wq_tc (c := 22) rfl rfl rfl (lo_22 hf ⟨by omega, by omega⟩ hL B nx)
      | 23, _ => exact wq_tc (c := 23) rfl rfl rfl (lo_23 hf ⟨by omega, by omega⟩ hL B nx)
      | 24, _ => exact wq_tc (c := 24) rfl rfl rfl (lo_24 hf ⟨by omega, by omega⟩ hL B nx)
      | 25, _ => exact wq_tc (c := 25) rfl rfl rfl (lo_25 hf ⟨by omega, by omega⟩ hL B nx)
      | 26, _ => exact wq_tc (c := 26) rfl rfl rfl (lo_26 hf ⟨by omega, by omega⟩ hL B nx)
      | 27, _ => exact wq_tc (c := 27) rfl rfl rfl (lo_27 hf ⟨by omega, by omega⟩ hL B nx)
      | n + 28, hn => exact wq_td rfl ⟨by omega, by omega⟩ (Or.inr (by omega)) rfl (nx h B (RM_0 rfl rfl))

