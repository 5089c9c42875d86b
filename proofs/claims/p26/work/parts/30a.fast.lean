/-! A METHOD'S ENTRIES BY A TREE: what it finds the list has -/
def av_lq : List (Nat × av_E) → Nat → Option av_E
  | [], _ => none
  | q :: r, pc => cond (Nat.beq pc q.1) (some q.2) (av_lq r pc)
def av_br (k : Nat) (f g : Nat → Option av_E) : Nat → Option av_E := fun pc => cond (Nat.ble pc k) (f pc) (g pc)
def av_sqf (sc : av_Sr) : Nat → (Nat → Option av_E) → av_S → Option av_S
  | 0, _, s => some s
  | n + 1, f, s => match f s.1 with
    | none => none
    | some x => if av_kd x = 0 then (match av_stp sc x s.1 s.2.1 s.2.2.1 s.2.2.2 with
      | none => none
      | some s' => av_sqf sc n f s') else none
section
variable {cd : List (Nat × av_E)}
theorem av_lqm : ∀ (D : List (Nat × av_E)) {pc : Nat} {x : av_E}, av_lq D pc = some x → (pc, x) ∈ D
  | [], _, _, h => by cases h
  | q :: D, pc, x, h => by
    have h : cond (Nat.beq pc q.1) (some q.2) (av_lq D pc) = some x := h
    cases e : Nat.beq pc q.1 with
    | true =>
      rw [e] at h
      have h : some q.2 = some x := h
      cases h
      rw [Nat.eq_of_beq_eq_true e]
      exact List.mem_cons_self
    | false =>
      rw [e] at h
      exact List.mem_cons_of_mem _ (av_lqm D h)
theorem av_lqP {D : List (Nat × av_E)} (h : ∀ q ∈ D, cd.lookup q.1 = some q.2) (pc : Nat) (x : av_E) (hx : av_lq D pc = some x) : cd.lookup pc = some x := h _ (av_lqm D hx)
def av_asc : List (Nat × av_E) → Nat → Bool
  | [], _ => true
  | q :: r, p => Nat.ble p q.1 && av_asc r (q.1 + 1)
theorem av_ascP : ∀ (D : List (Nat × av_E)) (p : Nat), av_asc D p = true → ∀ q ∈ D, p ≤ q.1 ∧ D.lookup q.1 = some q.2
  | [], _, _, q, hq => by cases hq
  | x :: D, p, h, q, hq => by
    have h : (Nat.ble p x.1 && av_asc D (x.1 + 1)) = true := h
    obtain ⟨h1, h2⟩ := (Bool.and_eq_true _ _).mp h
    have e := Nat.le_of_ble_eq_true h1
    show p ≤ q.1 ∧ (match q.1 == x.1 with | true => some x.2 | false => D.lookup q.1) = some q.2
    rcases List.mem_cons.mp hq with z | z
    · rw [z, show (x.1 == x.1) = true from beq_self_eq_true _]
      exact ⟨e, rfl⟩
    · obtain ⟨a, b⟩ := av_ascP D (x.1 + 1) h2 q z
      rw [show (q.1 == x.1) = false from beq_false_of_ne (by omega)]
      exact ⟨by omega, b⟩
theorem av_ascQ (h : av_asc cd 0 = true) : ∀ q ∈ cd, cd.lookup q.1 = some q.2 := fun q hq => (av_ascP cd 0 h q hq).2
theorem av_brP {k : Nat} {f g : Nat → Option av_E} (hf : ∀ (pc : Nat) (x : av_E), f pc = some x → cd.lookup pc = some x) (hg : ∀ (pc : Nat) (x : av_E), g pc = some x → cd.lookup pc = some x) (pc : Nat) (x : av_E) (hx : av_br k f g pc = some x) : cd.lookup pc = some x := by
  have hx : cond (Nat.ble pc k) (f pc) (g pc) = some x := hx
  cases e : Nat.ble pc k with
  | true =>
    rw [e] at hx
    exact hf pc x hx
  | false =>
    rw [e] at hx
    exact hg pc x hx
theorem av_sqf_s {sc : av_Sr} {f : Nat → Option av_E} (hf : ∀ (pc : Nat) (x : av_E), f pc = some x → cd.lookup pc = some x) : ∀ (k : Nat) (s s' : av_S), av_sqf sc k f s = some s' → av_seq sc k cd s = some s' := by
  intro k
  induction k with
  | zero => intro s s' hs; exact hs
  | succ k ih =>
    intro s s' hs
    simp only [av_sqf] at hs
    simp only [av_seq]
    split at hs
    · cases hs
    · next x hx =>
      rw [hf _ _ hx]
      try dsimp only
      split at hs
      · next hk =>
        rw [if_pos hk]
        split at hs
        · cases hs
        · next s1 hs1 =>
          rw [hs1]
          exact ih _ _ hs
      · cases hs
theorem av_wp_sqF {sc : av_Sr} {f : Nat → Option av_E} (hf : ∀ (pc : Nat) (x : av_E), f pc = some x → cd.lookup pc = some x) (k : Nat) {Q : Option av_V → av_H → Prop} {pc pc' : Nat} {lv lv' : av_L} {st st' : List av_V} {h h' : av_H} (hs : av_sqf sc k f (pc, lv, st, h) = some (pc', lv', st', h')) (hw : av_wp sc cd pc' lv' st' h' Q) : av_wp sc cd pc lv st h Q := av_wp_seq k (av_sqf_s hf _ _ _ hs) hw
end
def cl_1_0 : List (Nat × av_E) := [(0, av_q (.aload_n 0)), (1, av_q (.aload_n 1)), (2, av_qf (.putfield 59) 0 12 2), (5, av_q (.aload_n 0)), (6, av_q (.aload_n 2)), (7, av_qf (.putfield 46) 0 11 2)]
def cl_1_1 : List (Nat × av_E) := [(10, av_q (.aload_n 0)), (11, av_qf (.getfield 15) 0 1 2), (14, av_q (.iconst (-1))), (15, av_qc (.invokestatic 63) 220 2 2 10), (18, av_q (.iconst 0)), (19, av_q (.istore 5))]
def cl_1_2 : List (Nat × av_E) := [(21, av_q (.iload 5)), (23, av_q (.aload_n 0)), (24, av_qf (.getfield 59) 0 12 2), (27, av_qf (.getfield 69) 1 1 0), (30, av_qa (.if_icmp .ge 174) 204), (33, av_q (.aload_n 0))]
def cl_1_3 : List (Nat × av_E) := [(34, av_qf (.getfield 59) 0 12 2), (37, av_q (.iload 5)), (39, av_q (.iconst 0)), (40, av_qc (.invokevirtual 74) 29 2 0 1), (43, av_q (.istore 6)), (45, av_q (.iload 6))]
def cl_1_4 : List (Nat × av_E) := [(47, av_q (.iconst 3)), (48, av_qa (.if_icmp .ne 30) 78), (51, av_q (.aload_n 0)), (52, av_qf (.getfield 46) 0 11 2), (55, av_q (.bipush 9)), (57, av_q (.iaload))]
def cl_1_5 : List (Nat × av_E) := [(58, av_q (.iconst 1)), (59, av_qa (.if_icmp .ne 19) 78), (62, av_q (.aload_n 0)), (63, av_qf (.getfield 59) 0 12 2), (66, av_q (.iload 5)), (68, av_qc (.invokevirtual 78) 30 1 0 1)]
def cl_1_6 : List (Nat × av_E) := [(71, av_qa (.ifCond .eq 7) 78), (74, av_q (.iconst 1)), (75, av_qa (.goto 4) 79), (78, av_q (.iconst 0)), (79, av_q (.istore 7)), (81, av_q (.aload_n 0))]
def cl_1_7 : List (Nat × av_E) := [(82, av_qf (.getfield 18) 0 2 2), (85, av_q (.iload 5)), (87, av_q (.iload 6)), (89, av_qa (.ifCond .eq 14) 103), (92, av_q (.iload 6)), (94, av_q (.iconst 3))]
def cl_1_8 : List (Nat × av_E) := [(95, av_qa (.if_icmp .ne 12) 107), (98, av_q (.iload 7)), (100, av_qa (.ifCond .ne 7) 107), (103, av_q (.iconst 1)), (104, av_qa (.goto 4) 108), (107, av_q (.iconst 0))]
def cl_1_9 : List (Nat × av_E) := [(108, av_q (.bastore)), (109, av_q (.aload_n 0)), (110, av_qf (.getfield 22) 0 3 2), (113, av_q (.iload 5)), (115, av_q (.iload 6)), (117, av_q (.iconst 2))]
def cl_1_10 : List (Nat × av_E) := [(118, av_qa (.if_icmp .eq 26) 144), (121, av_q (.iload 7)), (123, av_qa (.ifCond .ne 21) 144), (126, av_q (.iload 6)), (128, av_q (.bipush 6)), (130, av_qa (.if_icmp .ne 18) 148)]
def cl_1_11 : List (Nat × av_E) := [(133, av_q (.aload_n 0)), (134, av_qf (.getfield 46) 0 11 2), (137, av_q (.bipush 11)), (139, av_q (.iaload)), (140, av_q (.iconst 1)), (141, av_qa (.if_icmp .ne 7) 148)]
def cl_1_12 : List (Nat × av_E) := [(144, av_q (.iconst 1)), (145, av_qa (.goto 4) 149), (148, av_q (.iconst 0)), (149, av_q (.bastore)), (150, av_q (.aload_n 0)), (151, av_qf (.getfield 59) 0 12 2)]
def cl_1_13 : List (Nat × av_E) := [(154, av_q (.iload 5)), (156, av_q (.bipush 6)), (158, av_qc (.invokevirtual 74) 29 2 0 1), (161, av_q (.istore 8)), (163, av_q (.aload_n 0)), (164, av_qf (.getfield 25) 0 4 2)]
def cl_1_14 : List (Nat × av_E) := [(167, av_q (.iload 5)), (169, av_q (.iload 8)), (171, av_qa (.ifCond .lt 25) 196), (174, av_q (.iload 8)), (176, av_q (.bipush 16)), (178, av_qa (.if_icmp .ge 18) 196)]
def cl_1_15 : List (Nat × av_E) := [(181, av_q (.aload_n 3)), (182, av_q (.iload 4)), (184, av_q (.iload 8)), (186, av_q (.iadd)), (187, av_q (.iaload)), (188, av_q (.iconst 2))]
def cl_1_16 : List (Nat × av_E) := [(189, av_qa (.if_icmp .eq 7) 196), (192, av_q (.iconst 1)), (193, av_qa (.goto 4) 197), (196, av_q (.iconst 0)), (197, av_q (.bastore)), (198, av_q (.iinc 5 1))]
def cl_1_17 : List (Nat × av_E) := [(201, av_qa (.goto (-180)) 21), (204, av_q (.return_))]
def cf_1 : Nat → Option av_E := (av_br 107 (av_br 45 (av_br 19 (av_br 7 (av_lq cl_1_0) (av_lq cl_1_1)) (av_br 33 (av_lq cl_1_2) (av_lq cl_1_3))) (av_br 68 (av_br 57 (av_lq cl_1_4) (av_lq cl_1_5)) (av_br 81 (av_lq cl_1_6) (av_br 94 (av_lq cl_1_7) (av_lq cl_1_8))))) (av_br 151 (av_br 130 (av_br 117 (av_lq cl_1_9) (av_lq cl_1_10)) (av_br 141 (av_lq cl_1_11) (av_lq cl_1_12))) (av_br 178 (av_br 164 (av_lq cl_1_13) (av_lq cl_1_14)) (av_br 188 (av_lq cl_1_15) (av_br 198 (av_lq cl_1_16) (av_lq cl_1_17))))))
set_option maxRecDepth 100000 in
set_option maxHeartbeats 4000000 in
theorem ck_1 : ∀ (pc : Nat) (x : av_E), cf_1 pc = some x → cd_1.lookup pc = some x := by
  have h : ∀ q ∈ cl_1_0 ++ (cl_1_1 ++ (cl_1_2 ++ (cl_1_3 ++ (cl_1_4 ++ (cl_1_5 ++ (cl_1_6 ++ (cl_1_7 ++ (cl_1_8 ++ (cl_1_9 ++ (cl_1_10 ++ (cl_1_11 ++ (cl_1_12 ++ (cl_1_13 ++ (cl_1_14 ++ (cl_1_15 ++ (cl_1_16 ++ (cl_1_17))))))))))))))))), cd_1.lookup q.1 = some q.2 := av_ascQ (cd := cd_1) (by decide +kernel)
  obtain ⟨h0, h⟩ := List.forall_mem_append.mp h
  obtain ⟨h1, h⟩ := List.forall_mem_append.mp h
  obtain ⟨h2, h⟩ := List.forall_mem_append.mp h
  obtain ⟨h3, h⟩ := List.forall_mem_append.mp h
  obtain ⟨h4, h⟩ := List.forall_mem_append.mp h
  obtain ⟨h5, h⟩ := List.forall_mem_append.mp h
  obtain ⟨h6, h⟩ := List.forall_mem_append.mp h
  obtain ⟨h7, h⟩ := List.forall_mem_append.mp h
  obtain ⟨h8, h⟩ := List.forall_mem_append.mp h
  obtain ⟨h9, h⟩ := List.forall_mem_append.mp h
  obtain ⟨h10, h⟩ := List.forall_mem_append.mp h
  obtain ⟨h11, h⟩ := List.forall_mem_append.mp h
  obtain ⟨h12, h⟩ := List.forall_mem_append.mp h
  obtain ⟨h13, h⟩ := List.forall_mem_append.mp h
  obtain ⟨h14, h⟩ := List.forall_mem_append.mp h
  obtain ⟨h15, h⟩ := List.forall_mem_append.mp h
  obtain ⟨h16, h⟩ := List.forall_mem_append.mp h
  have h17 := h
  exact (av_brP (av_brP (av_brP (av_brP (av_lqP h0) (av_lqP h1)) (av_brP (av_lqP h2) (av_lqP h3))) (av_brP (av_brP (av_lqP h4) (av_lqP h5)) (av_brP (av_lqP h6) (av_brP (av_lqP h7) (av_lqP h8))))) (av_brP (av_brP (av_brP (av_lqP h9) (av_lqP h10)) (av_brP (av_lqP h11) (av_lqP h12))) (av_brP (av_brP (av_lqP h13) (av_lqP h14)) (av_brP (av_lqP h15) (av_brP (av_lqP h16) (av_lqP h17))))))
def cl_2_0 : List (Nat × av_E) := [(0, av_q (.aload_n 0)), (1, av_q (.iload_n 1)), (2, av_qc (.invokevirtual 84) 4 1 0 0), (5, av_q (.aload_n 0)), (6, av_qc (.invokevirtual 88) 7 0 0 0), (9, av_q (.aload_n 0))]
def cl_2_1 : List (Nat × av_E) := [(10, av_qc (.invokevirtual 91) 9 0 0 0), (13, av_q (.aload_n 0)), (14, av_qc (.invokevirtual 94) 11 0 0 0), (17, av_q (.aload_n 0)), (18, av_q (.iconst (-1))), (19, av_qf (.putfield 49) 0 13 0)]
def cl_2_2 : List (Nat × av_E) := [(22, av_q (.aload_n 0)), (23, av_q (.iconst (-1))), (24, av_qf (.putfield 53) 0 14 0), (27, av_q (.aload_n 0)), (28, av_q (.sipush 9999)), (31, av_qf (.putfield 56) 0 15 0)]
def cl_2_3 : List (Nat × av_E) := [(34, av_q (.aload_n 0)), (35, av_qc (.invokevirtual 97) 12 0 0 0), (38, av_q (.aload_n 0)), (39, av_qf (.getfield 46) 0 11 2), (42, av_q (.bipush 8)), (44, av_q (.iaload))]
def cl_2_4 : List (Nat × av_E) := [(45, av_q (.iconst (-1))), (46, av_qa (.if_icmp .eq 7) 53), (49, av_q (.aload_n 0)), (50, av_qc (.invokevirtual 100) 14 0 0 0), (53, av_q (.aload_n 0)), (54, av_qf (.getfield 56) 0 15 0)]
def cl_2_5 : List (Nat × av_E) := [(57, av_q (.sipush 9999)), (60, av_qa (.if_icmp .eq 7) 67), (63, av_q (.iconst 1)), (64, av_qa (.goto 4) 68), (67, av_q (.iconst 0)), (68, av_qa (.ireturn) 1)]
def cf_2 : Nat → Option av_E := (av_br 31 (av_br 9 (av_lq cl_2_0) (av_br 19 (av_lq cl_2_1) (av_lq cl_2_2))) (av_br 44 (av_lq cl_2_3) (av_br 54 (av_lq cl_2_4) (av_lq cl_2_5))))
set_option maxRecDepth 100000 in
set_option maxHeartbeats 4000000 in
theorem ck_2 : ∀ (pc : Nat) (x : av_E), cf_2 pc = some x → cd_2.lookup pc = some x := by
  have h : ∀ q ∈ cl_2_0 ++ (cl_2_1 ++ (cl_2_2 ++ (cl_2_3 ++ (cl_2_4 ++ (cl_2_5))))), cd_2.lookup q.1 = some q.2 := av_ascQ (cd := cd_2) (by decide +kernel)
  obtain ⟨h0, h⟩ := List.forall_mem_append.mp h
  obtain ⟨h1, h⟩ := List.forall_mem_append.mp h
  obtain ⟨h2, h⟩ := List.forall_mem_append.mp h
  obtain ⟨h3, h⟩ := List.forall_mem_append.mp h
  obtain ⟨h4, h⟩ := List.forall_mem_append.mp h
  have h5 := h
  exact (av_brP (av_brP (av_lqP h0) (av_brP (av_lqP h1) (av_lqP h2))) (av_brP (av_lqP h3) (av_brP (av_lqP h4) (av_lqP h5))))
def cl_3_0 : List (Nat × av_E) := [(0, av_q (.aload_n 0)), (1, av_qf (.getfield 56) 0 15 0), (4, av_q (.sipush 9999)), (7, av_qa (.if_icmp .eq 7) 14), (10, av_q (.iconst 1)), (11, av_qa (.goto 4) 15)]
def cl_3_1 : List (Nat × av_E) := [(14, av_q (.iconst 0)), (15, av_qa (.ireturn) 1)]
def cf_3 : Nat → Option av_E := (av_br 11 (av_lq cl_3_0) (av_lq cl_3_1))
set_option maxRecDepth 100000 in
set_option maxHeartbeats 4000000 in
theorem ck_3 : ∀ (pc : Nat) (x : av_E), cf_3 pc = some x → cd_3.lookup pc = some x := by
  have h : ∀ q ∈ cl_3_0 ++ (cl_3_1), cd_3.lookup q.1 = some q.2 := av_ascQ (cd := cd_3) (by decide +kernel)
  obtain ⟨h0, h⟩ := List.forall_mem_append.mp h
  have h1 := h
  exact (av_brP (av_lqP h0) (av_lqP h1))
def cl_4_0 : List (Nat × av_E) := [(0, av_q (.iload_n 1)), (1, av_q (.istore_n 2)), (2, av_q (.iconst 0)), (3, av_q (.istore_n 3)), (4, av_q (.iload_n 3)), (5, av_q (.aload_n 0))]
def cl_4_1 : List (Nat × av_E) := [(6, av_qf (.getfield 59) 0 12 2), (9, av_qf (.getfield 69) 1 1 0), (12, av_qa (.if_icmp .ge 67) 79), (15, av_q (.aload_n 0)), (16, av_qf (.getfield 59) 0 12 2), (19, av_qf (.getfield 103) 1 0 2)]
def cl_4_2 : List (Nat × av_E) := [(22, av_q (.iload_n 3)), (23, av_q (.bipush 21)), (25, av_q (.imul)), (26, av_q (.bipush 20)), (28, av_q (.iadd)), (29, av_q (.iaload))]
def cl_4_3 : List (Nat × av_E) := [(30, av_q (.iconst 1)), (31, av_qa (.invokestatic 106) 1001), (34, av_q (.istore 4)), (36, av_q (.iload_n 2)), (37, av_q (.iload 4)), (39, av_q (.irem))]
def cl_4_4 : List (Nat × av_E) := [(40, av_q (.istore 5)), (42, av_q (.iload_n 2)), (43, av_q (.iload 4)), (45, av_q (.idiv)), (46, av_q (.istore_n 2)), (47, av_q (.iload 5))]
def cl_4_5 : List (Nat × av_E) := [(49, av_q (.aload_n 0)), (50, av_qf (.getfield 15) 0 1 2), (53, av_q (.iload_n 3)), (54, av_q (.iaload)), (55, av_qa (.if_icmp .eq 18) 73), (58, av_q (.aload_n 0))]
def cl_4_6 : List (Nat × av_E) := [(59, av_qf (.getfield 15) 0 1 2), (62, av_q (.iload_n 3)), (63, av_q (.iload 5)), (65, av_q (.iastore)), (66, av_q (.aload_n 0)), (67, av_q (.iload_n 3))]
def cl_4_7 : List (Nat × av_E) := [(68, av_q (.iload 5)), (70, av_qc (.invokevirtual 111) 5 2 0 0), (73, av_q (.iinc 3 1)), (76, av_qa (.goto (-72)) 4), (79, av_q (.return_))]
def cf_4 : Nat → Option av_E := (av_br 39 (av_br 19 (av_br 5 (av_lq cl_4_0) (av_lq cl_4_1)) (av_br 29 (av_lq cl_4_2) (av_lq cl_4_3))) (av_br 58 (av_br 47 (av_lq cl_4_4) (av_lq cl_4_5)) (av_br 67 (av_lq cl_4_6) (av_lq cl_4_7))))
set_option maxRecDepth 100000 in
set_option maxHeartbeats 4000000 in
theorem ck_4 : ∀ (pc : Nat) (x : av_E), cf_4 pc = some x → cd_4.lookup pc = some x := by
  have h : ∀ q ∈ cl_4_0 ++ (cl_4_1 ++ (cl_4_2 ++ (cl_4_3 ++ (cl_4_4 ++ (cl_4_5 ++ (cl_4_6 ++ (cl_4_7))))))), cd_4.lookup q.1 = some q.2 := av_ascQ (cd := cd_4) (by decide +kernel)
  obtain ⟨h0, h⟩ := List.forall_mem_append.mp h
  obtain ⟨h1, h⟩ := List.forall_mem_append.mp h
  obtain ⟨h2, h⟩ := List.forall_mem_append.mp h
  obtain ⟨h3, h⟩ := List.forall_mem_append.mp h
  obtain ⟨h4, h⟩ := List.forall_mem_append.mp h
  obtain ⟨h5, h⟩ := List.forall_mem_append.mp h
  obtain ⟨h6, h⟩ := List.forall_mem_append.mp h
  have h7 := h
  exact (av_brP (av_brP (av_brP (av_lqP h0) (av_lqP h1)) (av_brP (av_lqP h2) (av_lqP h3))) (av_brP (av_brP (av_lqP h4) (av_lqP h5)) (av_brP (av_lqP h6) (av_lqP h7))))
def cl_5_0 : List (Nat × av_E) := [(0, av_q (.iload_n 1)), (1, av_q (.bipush 21)), (3, av_q (.imul)), (4, av_q (.istore_n 3)), (5, av_q (.iload_n 2)), (6, av_q (.istore 4))]
def cl_5_1 : List (Nat × av_E) := [(8, av_q (.iconst 0)), (9, av_q (.istore 5)), (11, av_q (.iconst 0)), (12, av_q (.istore 6)), (14, av_q (.iload 6)), (16, av_q (.iconst 3))]
def cl_5_2 : List (Nat × av_E) := [(17, av_qa (.if_icmp .ge 82) 99), (20, av_q (.aload_n 0)), (21, av_qf (.getfield 59) 0 12 2), (24, av_qf (.getfield 103) 1 0 2), (27, av_q (.iload_n 3)), (28, av_q (.bipush 15))]
def cl_5_3 : List (Nat × av_E) := [(30, av_q (.iadd)), (31, av_q (.iload 6)), (33, av_q (.iadd)), (34, av_q (.iaload)), (35, av_q (.istore 7)), (37, av_q (.iload 5))]
def cl_5_4 : List (Nat × av_E) := [(39, av_q (.aload_n 0)), (40, av_qf (.getfield 59) 0 12 2), (43, av_qf (.getfield 103) 1 0 2), (46, av_q (.iload_n 3)), (47, av_q (.bipush 7)), (49, av_q (.iadd))]
def cl_5_5 : List (Nat × av_E) := [(50, av_q (.iload 6)), (52, av_q (.iadd)), (53, av_q (.iaload)), (54, av_q (.iadd)), (55, av_q (.istore 5)), (57, av_q (.iload 7))]
def cl_5_6 : List (Nat × av_E) := [(59, av_qa (.ifCond .le 20) 79), (62, av_q (.iload 5)), (64, av_q (.iload 4)), (66, av_q (.iload 7)), (68, av_q (.irem)), (69, av_q (.iadd))]
def cl_5_7 : List (Nat × av_E) := [(70, av_q (.istore 5)), (72, av_q (.iload 4)), (74, av_q (.iload 7)), (76, av_q (.idiv)), (77, av_q (.istore 4)), (79, av_q (.aload_n 0))]
def cl_5_8 : List (Nat × av_E) := [(80, av_qf (.getfield 9) 0 0 2), (83, av_q (.iload 6)), (85, av_q (.bipush 12)), (87, av_q (.imul)), (88, av_q (.iload_n 1)), (89, av_q (.iadd))]
def cl_5_9 : List (Nat × av_E) := [(90, av_q (.iload 5)), (92, av_q (.iastore)), (93, av_q (.iinc 6 1)), (96, av_qa (.goto (-82)) 14), (99, av_q (.aload_n 0)), (100, av_qf (.getfield 59) 0 12 2)]
def cl_5_10 : List (Nat × av_E) := [(103, av_qf (.getfield 103) 1 0 2), (106, av_q (.iload_n 3)), (107, av_q (.bipush 19)), (109, av_q (.iadd)), (110, av_q (.iaload)), (111, av_q (.iconst 1))]
def cl_5_11 : List (Nat × av_E) := [(112, av_qa (.if_icmp .eq 9) 121), (115, av_q (.iload 4)), (117, av_q (.iconst 1)), (118, av_qa (.if_icmp .ne 23) 141), (121, av_q (.aload_n 0)), (122, av_qf (.getfield 9) 0 0 2)]
def cl_5_12 : List (Nat × av_E) := [(125, av_q (.bipush 12)), (127, av_q (.iload_n 1)), (128, av_q (.iadd)), (129, av_q (.iconst (-1))), (130, av_q (.iastore)), (131, av_q (.aload_n 0))]
def cl_5_13 : List (Nat × av_E) := [(132, av_qf (.getfield 9) 0 0 2), (135, av_q (.bipush 24)), (137, av_q (.iload_n 1)), (138, av_q (.iadd)), (139, av_q (.iconst (-1))), (140, av_q (.iastore))]
def cl_5_14 : List (Nat × av_E) := [(141, av_q (.return_))]
def cf_5 : Nat → Option av_E := (av_br 69 (av_br 28 (av_br 6 (av_lq cl_5_0) (av_br 16 (av_lq cl_5_1) (av_lq cl_5_2))) (av_br 49 (av_br 37 (av_lq cl_5_3) (av_lq cl_5_4)) (av_br 57 (av_lq cl_5_5) (av_lq cl_5_6)))) (av_br 111 (av_br 89 (av_br 79 (av_lq cl_5_7) (av_lq cl_5_8)) (av_br 100 (av_lq cl_5_9) (av_lq cl_5_10))) (av_br 131 (av_br 122 (av_lq cl_5_11) (av_lq cl_5_12)) (av_br 140 (av_lq cl_5_13) (av_lq cl_5_14)))))
set_option maxRecDepth 100000 in
set_option maxHeartbeats 4000000 in
theorem ck_5 : ∀ (pc : Nat) (x : av_E), cf_5 pc = some x → cd_5.lookup pc = some x := by
  have h : ∀ q ∈ cl_5_0 ++ (cl_5_1 ++ (cl_5_2 ++ (cl_5_3 ++ (cl_5_4 ++ (cl_5_5 ++ (cl_5_6 ++ (cl_5_7 ++ (cl_5_8 ++ (cl_5_9 ++ (cl_5_10 ++ (cl_5_11 ++ (cl_5_12 ++ (cl_5_13 ++ (cl_5_14)))))))))))))), cd_5.lookup q.1 = some q.2 := av_ascQ (cd := cd_5) (by decide +kernel)
  obtain ⟨h0, h⟩ := List.forall_mem_append.mp h
  obtain ⟨h1, h⟩ := List.forall_mem_append.mp h
  obtain ⟨h2, h⟩ := List.forall_mem_append.mp h
  obtain ⟨h3, h⟩ := List.forall_mem_append.mp h
  obtain ⟨h4, h⟩ := List.forall_mem_append.mp h
  obtain ⟨h5, h⟩ := List.forall_mem_append.mp h
  obtain ⟨h6, h⟩ := List.forall_mem_append.mp h
  obtain ⟨h7, h⟩ := List.forall_mem_append.mp h
  obtain ⟨h8, h⟩ := List.forall_mem_append.mp h
  obtain ⟨h9, h⟩ := List.forall_mem_append.mp h
  obtain ⟨h10, h⟩ := List.forall_mem_append.mp h
  obtain ⟨h11, h⟩ := List.forall_mem_append.mp h
  obtain ⟨h12, h⟩ := List.forall_mem_append.mp h
  obtain ⟨h13, h⟩ := List.forall_mem_append.mp h
  have h14 := h
  exact (av_brP (av_brP (av_brP (av_lqP h0) (av_brP (av_lqP h1) (av_lqP h2))) (av_brP (av_brP (av_lqP h3) (av_lqP h4)) (av_brP (av_lqP h5) (av_lqP h6)))) (av_brP (av_brP (av_brP (av_lqP h7) (av_lqP h8)) (av_brP (av_lqP h9) (av_lqP h10))) (av_brP (av_brP (av_lqP h11) (av_lqP h12)) (av_brP (av_lqP h13) (av_lqP h14)))))
def cl_6_0 : List (Nat × av_E) := [(0, av_q (.iload_n 1)), (1, av_qa (.ifCond .lt 18) 19), (4, av_q (.iload_n 1)), (5, av_q (.bipush 12)), (7, av_qa (.if_icmp .ge 12) 19), (10, av_q (.iload_n 2))]
def cl_6_1 : List (Nat × av_E) := [(11, av_qa (.ifCond .lt 8) 19), (14, av_q (.iload_n 2)), (15, av_q (.iconst 2)), (16, av_qa (.if_icmp .le 5) 21), (19, av_q (.iconst (-1))), (20, av_q (.ireturn))]
def cl_6_2 : List (Nat × av_E) := [(21, av_q (.aload_n 0)), (22, av_qf (.getfield 9) 0 0 2), (25, av_q (.iload_n 2)), (26, av_q (.bipush 12)), (28, av_q (.imul)), (29, av_q (.iload_n 1))]
def cl_6_3 : List (Nat × av_E) := [(30, av_q (.iadd)), (31, av_q (.iaload)), (32, av_q (.ireturn))]
def cf_6 : Nat → Option av_E := (av_br 20 (av_br 10 (av_lq cl_6_0) (av_lq cl_6_1)) (av_br 29 (av_lq cl_6_2) (av_lq cl_6_3)))
set_option maxRecDepth 100000 in
set_option maxHeartbeats 4000000 in
theorem ck_6 : ∀ (pc : Nat) (x : av_E), cf_6 pc = some x → cd_6.lookup pc = some x := by
  have h : ∀ q ∈ cl_6_0 ++ (cl_6_1 ++ (cl_6_2 ++ (cl_6_3))), cd_6.lookup q.1 = some q.2 := av_ascQ (cd := cd_6) (by decide +kernel)
  obtain ⟨h0, h⟩ := List.forall_mem_append.mp h
  obtain ⟨h1, h⟩ := List.forall_mem_append.mp h
  obtain ⟨h2, h⟩ := List.forall_mem_append.mp h
  have h3 := h
  exact (av_brP (av_brP (av_lqP h0) (av_lqP h1)) (av_brP (av_lqP h2) (av_lqP h3)))
def cl_7_0 : List (Nat × av_E) := [(0, av_q (.iconst 0)), (1, av_q (.istore_n 1)), (2, av_q (.iload_n 1)), (3, av_q (.aload_n 0)), (4, av_qf (.getfield 59) 0 12 2), (7, av_qf (.getfield 69) 1 1 0)]
def cl_7_1 : List (Nat × av_E) := [(10, av_qa (.if_icmp .ge 163) 173), (13, av_q (.aload_n 0)), (14, av_qf (.getfield 40) 0 9 2), (17, av_q (.iload_n 1)), (18, av_q (.sipush 9999)), (21, av_q (.iastore))]
def cl_7_2 : List (Nat × av_E) := [(22, av_q (.aload_n 0)), (23, av_qf (.getfield 43) 0 10 2), (26, av_q (.iload_n 1)), (27, av_q (.sipush 9999)), (30, av_q (.iastore)), (31, av_q (.aload_n 0))]
def cl_7_3 : List (Nat × av_E) := [(32, av_qf (.getfield 31) 0 6 2), (35, av_q (.iload_n 1)), (36, av_q (.sipush 9999)), (39, av_q (.iastore)), (40, av_q (.aload_n 0)), (41, av_qf (.getfield 34) 0 7 2)]
def cl_7_4 : List (Nat × av_E) := [(44, av_q (.iload_n 1)), (45, av_q (.iconst 0)), (46, av_q (.iastore)), (47, av_q (.aload_n 0)), (48, av_qf (.getfield 37) 0 8 2), (51, av_q (.iload_n 1))]
def cl_7_5 : List (Nat × av_E) := [(52, av_q (.iconst (-1))), (53, av_q (.iastore)), (54, av_q (.aload_n 0)), (55, av_qf (.getfield 28) 0 5 2), (58, av_q (.iload_n 1)), (59, av_q (.aload_n 0))]
def cl_7_6 : List (Nat × av_E) := [(60, av_qf (.getfield 18) 0 2 2), (63, av_q (.iload_n 1)), (64, av_q (.baload)), (65, av_qa (.ifCond .eq 26) 91), (68, av_q (.aload_n 0)), (69, av_qf (.getfield 25) 0 4 2)]
def cl_7_7 : List (Nat × av_E) := [(72, av_q (.iload_n 1)), (73, av_q (.baload)), (74, av_qa (.ifCond .ne 17) 91), (77, av_q (.aload_n 0)), (78, av_q (.iload_n 1)), (79, av_q (.aload_n 0))]
def cl_7_8 : List (Nat × av_E) := [(80, av_qf (.getfield 46) 0 11 2), (83, av_q (.iconst 3)), (84, av_q (.iaload)), (85, av_qc (.invokevirtual 115) 6 2 0 0), (88, av_qa (.goto 4) 92), (91, av_q (.iconst (-1)))]
def cl_7_9 : List (Nat × av_E) := [(92, av_q (.iastore)), (93, av_q (.aload_n 0)), (94, av_qf (.getfield 59) 0 12 2), (97, av_qf (.getfield 103) 1 0 2), (100, av_q (.iload_n 1)), (101, av_q (.bipush 21))]
def cl_7_10 : List (Nat × av_E) := [(103, av_q (.imul)), (104, av_q (.iconst 5)), (105, av_q (.iadd)), (106, av_q (.iaload)), (107, av_q (.istore_n 2)), (108, av_q (.aload_n 0))]
def cl_7_11 : List (Nat × av_E) := [(109, av_q (.iload_n 1)), (110, av_q (.iconst 1)), (111, av_qc (.invokevirtual 115) 6 2 0 0), (114, av_q (.istore_n 3)), (115, av_q (.iload_n 2)), (116, av_q (.iconst (-1)))]
def cl_7_12 : List (Nat × av_E) := [(117, av_qa (.if_icmp .eq 16) 133), (120, av_q (.aload_n 0)), (121, av_q (.iload_n 1)), (122, av_q (.iload_n 2)), (123, av_q (.iconst 1)), (124, av_q (.iadd))]
def cl_7_13 : List (Nat × av_E) := [(125, av_q (.iconst 3)), (126, av_q (.iconst (-1))), (127, av_qc (.invokevirtual 118) 8 4 0 0), (130, av_qa (.goto 37) 167), (133, av_q (.aload_n 0)), (134, av_qf (.getfield 46) 0 11 2)]
def cl_7_14 : List (Nat × av_E) := [(137, av_q (.bipush 7)), (139, av_q (.iaload)), (140, av_q (.iconst (-1))), (141, av_qa (.if_icmp .eq 26) 167), (144, av_q (.iload_n 3)), (145, av_q (.iconst (-1)))]
def cl_7_15 : List (Nat × av_E) := [(146, av_qa (.if_icmp .eq 21) 167), (149, av_q (.aload_n 0)), (150, av_q (.iload_n 1)), (151, av_q (.iload_n 3)), (152, av_q (.aload_n 0)), (153, av_qf (.getfield 46) 0 11 2)]
def cl_7_16 : List (Nat × av_E) := [(156, av_q (.bipush 7)), (158, av_q (.iaload)), (159, av_q (.iadd)), (160, av_q (.iconst 1)), (161, av_q (.iadd)), (162, av_q (.iconst 4))]
def cl_7_17 : List (Nat × av_E) := [(163, av_q (.iconst (-1))), (164, av_qc (.invokevirtual 118) 8 4 0 0), (167, av_q (.iinc 1 1)), (170, av_qa (.goto (-168)) 2), (173, av_q (.return_))]
def cf_7 : Nat → Option av_E := (av_br 91 (av_br 41 (av_br 21 (av_br 7 (av_lq cl_7_0) (av_lq cl_7_1)) (av_br 31 (av_lq cl_7_2) (av_lq cl_7_3))) (av_br 59 (av_br 51 (av_lq cl_7_4) (av_lq cl_7_5)) (av_br 69 (av_lq cl_7_6) (av_br 79 (av_lq cl_7_7) (av_lq cl_7_8))))) (av_br 124 (av_br 108 (av_br 101 (av_lq cl_7_9) (av_lq cl_7_10)) (av_br 116 (av_lq cl_7_11) (av_lq cl_7_12))) (av_br 145 (av_br 134 (av_lq cl_7_13) (av_lq cl_7_14)) (av_br 153 (av_lq cl_7_15) (av_br 162 (av_lq cl_7_16) (av_lq cl_7_17))))))
set_option maxRecDepth 100000 in
set_option maxHeartbeats 4000000 in
theorem ck_7 : ∀ (pc : Nat) (x : av_E), cf_7 pc = some x → cd_7.lookup pc = some x := by
  have h : ∀ q ∈ cl_7_0 ++ (cl_7_1 ++ (cl_7_2 ++ (cl_7_3 ++ (cl_7_4 ++ (cl_7_5 ++ (cl_7_6 ++ (cl_7_7 ++ (cl_7_8 ++ (cl_7_9 ++ (cl_7_10 ++ (cl_7_11 ++ (cl_7_12 ++ (cl_7_13 ++ (cl_7_14 ++ (cl_7_15 ++ (cl_7_16 ++ (cl_7_17))))))))))))))))), cd_7.lookup q.1 = some q.2 := av_ascQ (cd := cd_7) (by decide +kernel)
  obtain ⟨h0, h⟩ := List.forall_mem_append.mp h
  obtain ⟨h1, h⟩ := List.forall_mem_append.mp h
  obtain ⟨h2, h⟩ := List.forall_mem_append.mp h
  obtain ⟨h3, h⟩ := List.forall_mem_append.mp h
  obtain ⟨h4, h⟩ := List.forall_mem_append.mp h
  obtain ⟨h5, h⟩ := List.forall_mem_append.mp h
  obtain ⟨h6, h⟩ := List.forall_mem_append.mp h
  obtain ⟨h7, h⟩ := List.forall_mem_append.mp h
  obtain ⟨h8, h⟩ := List.forall_mem_append.mp h
  obtain ⟨h9, h⟩ := List.forall_mem_append.mp h
  obtain ⟨h10, h⟩ := List.forall_mem_append.mp h
  obtain ⟨h11, h⟩ := List.forall_mem_append.mp h
  obtain ⟨h12, h⟩ := List.forall_mem_append.mp h
  obtain ⟨h13, h⟩ := List.forall_mem_append.mp h
  obtain ⟨h14, h⟩ := List.forall_mem_append.mp h
  obtain ⟨h15, h⟩ := List.forall_mem_append.mp h
  obtain ⟨h16, h⟩ := List.forall_mem_append.mp h
  have h17 := h
  exact (av_brP (av_brP (av_brP (av_brP (av_lqP h0) (av_lqP h1)) (av_brP (av_lqP h2) (av_lqP h3))) (av_brP (av_brP (av_lqP h4) (av_lqP h5)) (av_brP (av_lqP h6) (av_brP (av_lqP h7) (av_lqP h8))))) (av_brP (av_brP (av_brP (av_lqP h9) (av_lqP h10)) (av_brP (av_lqP h11) (av_lqP h12))) (av_brP (av_brP (av_lqP h13) (av_lqP h14)) (av_brP (av_lqP h15) (av_brP (av_lqP h16) (av_lqP h17))))))
def cl_8_0 : List (Nat × av_E) := [(0, av_q (.aload_n 0)), (1, av_qf (.getfield 18) 0 2 2), (4, av_q (.iload_n 1)), (5, av_q (.baload)), (6, av_qa (.ifCond .eq 60) 66), (9, av_q (.iload_n 2))]
def cl_8_1 : List (Nat × av_E) := [(10, av_q (.iconst (-1))), (11, av_qa (.if_icmp .eq 55) 66), (14, av_q (.iload_n 2)), (15, av_q (.aload_n 0)), (16, av_qf (.getfield 31) 0 6 2), (19, av_q (.iload_n 1))]
def cl_8_2 : List (Nat × av_E) := [(20, av_q (.iaload)), (21, av_qa (.if_icmp .lt 23) 44), (24, av_q (.iload_n 2)), (25, av_q (.aload_n 0)), (26, av_qf (.getfield 31) 0 6 2), (29, av_q (.iload_n 1))]
def cl_8_3 : List (Nat × av_E) := [(30, av_q (.iaload)), (31, av_qa (.if_icmp .ne 35) 66), (34, av_q (.iload_n 3)), (35, av_q (.aload_n 0)), (36, av_qf (.getfield 34) 0 7 2), (39, av_q (.iload_n 1))]
def cl_8_4 : List (Nat × av_E) := [(40, av_q (.iaload)), (41, av_qa (.if_icmp .ge 25) 66), (44, av_q (.aload_n 0)), (45, av_qf (.getfield 31) 0 6 2), (48, av_q (.iload_n 1)), (49, av_q (.iload_n 2))]
def cl_8_5 : List (Nat × av_E) := [(50, av_q (.iastore)), (51, av_q (.aload_n 0)), (52, av_qf (.getfield 34) 0 7 2), (55, av_q (.iload_n 1)), (56, av_q (.iload_n 3)), (57, av_q (.iastore))]
def cl_8_6 : List (Nat × av_E) := [(58, av_q (.aload_n 0)), (59, av_qf (.getfield 37) 0 8 2), (62, av_q (.iload_n 1)), (63, av_q (.iload 4)), (65, av_q (.iastore)), (66, av_q (.return_))]
def cf_8 : Nat → Option av_E := (av_br 29 (av_br 9 (av_lq cl_8_0) (av_br 19 (av_lq cl_8_1) (av_lq cl_8_2))) (av_br 49 (av_br 39 (av_lq cl_8_3) (av_lq cl_8_4)) (av_br 57 (av_lq cl_8_5) (av_lq cl_8_6))))
set_option maxRecDepth 100000 in
set_option maxHeartbeats 4000000 in
theorem ck_8 : ∀ (pc : Nat) (x : av_E), cf_8 pc = some x → cd_8.lookup pc = some x := by
  have h : ∀ q ∈ cl_8_0 ++ (cl_8_1 ++ (cl_8_2 ++ (cl_8_3 ++ (cl_8_4 ++ (cl_8_5 ++ (cl_8_6)))))), cd_8.lookup q.1 = some q.2 := av_ascQ (cd := cd_8) (by decide +kernel)
  obtain ⟨h0, h⟩ := List.forall_mem_append.mp h
  obtain ⟨h1, h⟩ := List.forall_mem_append.mp h
  obtain ⟨h2, h⟩ := List.forall_mem_append.mp h
  obtain ⟨h3, h⟩ := List.forall_mem_append.mp h
  obtain ⟨h4, h⟩ := List.forall_mem_append.mp h
  obtain ⟨h5, h⟩ := List.forall_mem_append.mp h
  have h6 := h
  exact (av_brP (av_brP (av_lqP h0) (av_brP (av_lqP h1) (av_lqP h2))) (av_brP (av_brP (av_lqP h3) (av_lqP h4)) (av_brP (av_lqP h5) (av_lqP h6))))
def cl_9_0 : List (Nat × av_E) := [(0, av_q (.iconst 0)), (1, av_q (.istore_n 1)), (2, av_q (.iload_n 1)), (3, av_q (.aload_n 0)), (4, av_qf (.getfield 59) 0 12 2), (7, av_qf (.getfield 69) 1 1 0)]
def cl_9_1 : List (Nat × av_E) := [(10, av_qa (.if_icmp .ge 126) 136), (13, av_q (.aload_n 0)), (14, av_qf (.getfield 59) 0 12 2), (17, av_qf (.getfield 103) 1 0 2), (20, av_q (.iload_n 1)), (21, av_q (.bipush 21))]
def cl_9_2 : List (Nat × av_E) := [(23, av_q (.imul)), (24, av_q (.iconst 3)), (25, av_q (.iadd)), (26, av_q (.iaload)), (27, av_q (.istore_n 2)), (28, av_q (.aload_n 0))]
def cl_9_3 : List (Nat × av_E) := [(29, av_qf (.getfield 59) 0 12 2), (32, av_qf (.getfield 103) 1 0 2), (35, av_q (.iload_n 1)), (36, av_q (.bipush 21)), (38, av_q (.imul)), (39, av_q (.iconst 0))]
def cl_9_4 : List (Nat × av_E) := [(40, av_q (.iadd)), (41, av_q (.iaload)), (42, av_q (.iconst 5)), (43, av_qa (.if_icmp .ne 16) 59), (46, av_q (.iload_n 2)), (47, av_qa (.ifCond .lt 12) 59)]
def cl_9_5 : List (Nat × av_E) := [(50, av_q (.iload_n 2)), (51, av_q (.iload_n 1)), (52, av_qa (.if_icmp .ge 7) 59), (55, av_q (.iconst 1)), (56, av_qa (.goto 4) 60), (59, av_q (.iconst 0))]
def cl_9_6 : List (Nat × av_E) := [(60, av_q (.istore_n 3)), (61, av_q (.iload_n 3)), (62, av_qa (.ifCond .eq 17) 79), (65, av_q (.aload_n 0)), (66, av_q (.iload_n 1)), (67, av_q (.aload_n 0))]
def cl_9_7 : List (Nat × av_E) := [(68, av_qf (.getfield 46) 0 11 2), (71, av_q (.iconst 4)), (72, av_q (.iaload)), (73, av_qc (.invokevirtual 115) 6 2 0 0), (76, av_qa (.goto 4) 80), (79, av_q (.iconst (-1)))]
def cl_9_8 : List (Nat × av_E) := [(80, av_q (.istore 4)), (82, av_q (.iload 4)), (84, av_q (.iconst (-1))), (85, av_qa (.if_icmp .eq 20) 105), (88, av_q (.aload_n 0)), (89, av_qf (.getfield 40) 0 9 2)]
def cl_9_9 : List (Nat × av_E) := [(92, av_q (.iload_n 2)), (93, av_q (.aload_n 0)), (94, av_qf (.getfield 40) 0 9 2), (97, av_q (.iload_n 2)), (98, av_q (.iaload)), (99, av_q (.iload 4))]
def cl_9_10 : List (Nat × av_E) := [(101, av_qa (.invokestatic 122) 1002), (104, av_q (.iastore)), (105, av_q (.iload 4)), (107, av_q (.iconst (-1))), (108, av_qa (.if_icmp .eq 22) 130), (111, av_q (.iload 4))]
def cl_9_11 : List (Nat × av_E) := [(113, av_q (.aload_n 0)), (114, av_q (.iload_n 2)), (115, av_qc (.invokevirtual 125) 10 1 0 0), (118, av_qa (.if_icmp .lt 12) 130), (121, av_q (.aload_n 0)), (122, av_q (.iload_n 2))]
def cl_9_12 : List (Nat × av_E) := [(123, av_q (.iload 4)), (125, av_q (.iconst 1)), (126, av_q (.iload_n 1)), (127, av_qc (.invokevirtual 118) 8 4 0 0), (130, av_q (.iinc 1 1)), (133, av_qa (.goto (-131)) 2)]
def cl_9_13 : List (Nat × av_E) := [(136, av_q (.return_))]
def cf_9 : Nat → Option av_E := (av_br 67 (av_br 28 (av_br 7 (av_lq cl_9_0) (av_br 21 (av_lq cl_9_1) (av_lq cl_9_2))) (av_br 47 (av_br 39 (av_lq cl_9_3) (av_lq cl_9_4)) (av_br 59 (av_lq cl_9_5) (av_lq cl_9_6)))) (av_br 99 (av_br 79 (av_lq cl_9_7) (av_br 89 (av_lq cl_9_8) (av_lq cl_9_9))) (av_br 122 (av_br 111 (av_lq cl_9_10) (av_lq cl_9_11)) (av_br 133 (av_lq cl_9_12) (av_lq cl_9_13)))))
set_option maxRecDepth 100000 in
set_option maxHeartbeats 4000000 in
theorem ck_9 : ∀ (pc : Nat) (x : av_E), cf_9 pc = some x → cd_9.lookup pc = some x := by
  have h : ∀ q ∈ cl_9_0 ++ (cl_9_1 ++ (cl_9_2 ++ (cl_9_3 ++ (cl_9_4 ++ (cl_9_5 ++ (cl_9_6 ++ (cl_9_7 ++ (cl_9_8 ++ (cl_9_9 ++ (cl_9_10 ++ (cl_9_11 ++ (cl_9_12 ++ (cl_9_13))))))))))))), cd_9.lookup q.1 = some q.2 := av_ascQ (cd := cd_9) (by decide +kernel)
  obtain ⟨h0, h⟩ := List.forall_mem_append.mp h
  obtain ⟨h1, h⟩ := List.forall_mem_append.mp h
  obtain ⟨h2, h⟩ := List.forall_mem_append.mp h
  obtain ⟨h3, h⟩ := List.forall_mem_append.mp h
  obtain ⟨h4, h⟩ := List.forall_mem_append.mp h
  obtain ⟨h5, h⟩ := List.forall_mem_append.mp h
  obtain ⟨h6, h⟩ := List.forall_mem_append.mp h
  obtain ⟨h7, h⟩ := List.forall_mem_append.mp h
  obtain ⟨h8, h⟩ := List.forall_mem_append.mp h
  obtain ⟨h9, h⟩ := List.forall_mem_append.mp h
  obtain ⟨h10, h⟩ := List.forall_mem_append.mp h
  obtain ⟨h11, h⟩ := List.forall_mem_append.mp h
  obtain ⟨h12, h⟩ := List.forall_mem_append.mp h
  have h13 := h
  exact (av_brP (av_brP (av_brP (av_lqP h0) (av_brP (av_lqP h1) (av_lqP h2))) (av_brP (av_brP (av_lqP h3) (av_lqP h4)) (av_brP (av_lqP h5) (av_lqP h6)))) (av_brP (av_brP (av_lqP h7) (av_brP (av_lqP h8) (av_lqP h9))) (av_brP (av_brP (av_lqP h10) (av_lqP h11)) (av_brP (av_lqP h12) (av_lqP h13)))))
def cl_10_0 : List (Nat × av_E) := [(0, av_q (.aload_n 0)), (1, av_qf (.getfield 59) 0 12 2), (4, av_qf (.getfield 103) 1 0 2), (7, av_q (.iload_n 1)), (8, av_q (.bipush 21)), (10, av_q (.imul))]
def cl_10_1 : List (Nat × av_E) := [(11, av_q (.iconst 5)), (12, av_q (.iadd)), (13, av_q (.iaload)), (14, av_q (.istore_n 2)), (15, av_q (.iload_n 2)), (16, av_q (.iconst (-1)))]
def cl_10_2 : List (Nat × av_E) := [(17, av_qa (.if_icmp .eq 20) 37), (20, av_q (.aload_n 0)), (21, av_qf (.getfield 46) 0 11 2), (24, av_q (.bipush 6)), (26, av_q (.iaload)), (27, av_q (.iconst 1))]
def cl_10_3 : List (Nat × av_E) := [(28, av_qa (.if_icmp .ne 9) 37), (31, av_q (.iload_n 2)), (32, av_q (.iconst 1)), (33, av_q (.iadd)), (34, av_qa (.goto 4) 38), (37, av_q (.iconst 0))]
def cl_10_4 : List (Nat × av_E) := [(38, av_q (.ireturn))]
def cf_10 : Nat → Option av_E := (av_br 16 (av_br 10 (av_lq cl_10_0) (av_lq cl_10_1)) (av_br 27 (av_lq cl_10_2) (av_br 37 (av_lq cl_10_3) (av_lq cl_10_4))))
set_option maxRecDepth 100000 in
set_option maxHeartbeats 4000000 in
theorem ck_10 : ∀ (pc : Nat) (x : av_E), cf_10 pc = some x → cd_10.lookup pc = some x := by
  have h : ∀ q ∈ cl_10_0 ++ (cl_10_1 ++ (cl_10_2 ++ (cl_10_3 ++ (cl_10_4)))), cd_10.lookup q.1 = some q.2 := av_ascQ (cd := cd_10) (by decide +kernel)
  obtain ⟨h0, h⟩ := List.forall_mem_append.mp h
  obtain ⟨h1, h⟩ := List.forall_mem_append.mp h
  obtain ⟨h2, h⟩ := List.forall_mem_append.mp h
  obtain ⟨h3, h⟩ := List.forall_mem_append.mp h
  have h4 := h
  exact (av_brP (av_brP (av_lqP h0) (av_lqP h1)) (av_brP (av_lqP h2) (av_brP (av_lqP h3) (av_lqP h4))))
def cl_11_0 : List (Nat × av_E) := [(0, av_q (.iconst 0)), (1, av_q (.istore_n 1)), (2, av_q (.iload_n 1)), (3, av_q (.aload_n 0)), (4, av_qf (.getfield 59) 0 12 2), (7, av_qf (.getfield 69) 1 1 0)]
def cl_11_1 : List (Nat × av_E) := [(10, av_qa (.if_icmp .ge 112) 122), (13, av_q (.aload_n 0)), (14, av_qf (.getfield 59) 0 12 2), (17, av_qf (.getfield 103) 1 0 2), (20, av_q (.iload_n 1)), (21, av_q (.bipush 21))]
def cl_11_2 : List (Nat × av_E) := [(23, av_q (.imul)), (24, av_q (.iconst 0)), (25, av_q (.iadd)), (26, av_q (.iaload)), (27, av_q (.istore_n 2)), (28, av_q (.aload_n 0))]
def cl_11_3 : List (Nat × av_E) := [(29, av_qf (.getfield 59) 0 12 2), (32, av_qf (.getfield 103) 1 0 2), (35, av_q (.iload_n 1)), (36, av_q (.bipush 21)), (38, av_q (.imul)), (39, av_q (.iconst 3))]
def cl_11_4 : List (Nat × av_E) := [(40, av_q (.iadd)), (41, av_q (.iaload)), (42, av_q (.istore_n 3)), (43, av_q (.iload_n 3)), (44, av_qa (.ifCond .lt 72) 116), (47, av_q (.iload_n 3))]
def cl_11_5 : List (Nat × av_E) := [(48, av_q (.iload_n 1)), (49, av_qa (.if_icmp .ge 67) 116), (52, av_q (.iload_n 2)), (53, av_q (.iconst 5)), (54, av_qa (.if_icmp .eq 62) 116), (57, av_q (.iload_n 2))]
def cl_11_6 : List (Nat × av_E) := [(58, av_q (.bipush 7)), (60, av_qa (.if_icmp .eq 56) 116), (63, av_q (.aload_n 0)), (64, av_qf (.getfield 43) 0 10 2), (67, av_q (.iload_n 3)), (68, av_q (.aload_n 0))]
def cl_11_7 : List (Nat × av_E) := [(69, av_qf (.getfield 43) 0 10 2), (72, av_q (.iload_n 3)), (73, av_q (.iaload)), (74, av_q (.aload_n 0)), (75, av_q (.iload_n 1)), (76, av_q (.iconst 0))]
def cl_11_8 : List (Nat × av_E) := [(77, av_qc (.invokevirtual 115) 6 2 0 0), (80, av_qa (.invokestatic 122) 1002), (83, av_q (.iastore)), (84, av_q (.iload_n 2)), (85, av_q (.iconst 4)), (86, av_qa (.if_icmp .eq 12) 98)]
def cl_11_9 : List (Nat × av_E) := [(89, av_q (.aload_n 0)), (90, av_qf (.getfield 18) 0 2 2), (93, av_q (.iload_n 1)), (94, av_q (.baload)), (95, av_qa (.ifCond .eq 21) 116), (98, av_q (.aload_n 0))]
def cl_11_10 : List (Nat × av_E) := [(99, av_q (.iload_n 3)), (100, av_q (.aload_n 0)), (101, av_q (.iload_n 1)), (102, av_q (.aload_n 0)), (103, av_qf (.getfield 46) 0 11 2), (106, av_q (.iconst 5))]
def cl_11_11 : List (Nat × av_E) := [(107, av_q (.iaload)), (108, av_qc (.invokevirtual 115) 6 2 0 0), (111, av_q (.iconst 2)), (112, av_q (.iload_n 1)), (113, av_qc (.invokevirtual 118) 8 4 0 0), (116, av_q (.iinc 1 1))]
def cl_11_12 : List (Nat × av_E) := [(119, av_qa (.goto (-117)) 2), (122, av_q (.return_))]
def cf_11 : Nat → Option av_E := (av_br 57 (av_br 28 (av_br 7 (av_lq cl_11_0) (av_br 21 (av_lq cl_11_1) (av_lq cl_11_2))) (av_br 39 (av_lq cl_11_3) (av_br 47 (av_lq cl_11_4) (av_lq cl_11_5)))) (av_br 86 (av_br 68 (av_lq cl_11_6) (av_br 76 (av_lq cl_11_7) (av_lq cl_11_8))) (av_br 106 (av_br 98 (av_lq cl_11_9) (av_lq cl_11_10)) (av_br 116 (av_lq cl_11_11) (av_lq cl_11_12)))))
set_option maxRecDepth 100000 in
set_option maxHeartbeats 4000000 in
theorem ck_11 : ∀ (pc : Nat) (x : av_E), cf_11 pc = some x → cd_11.lookup pc = some x := by
  have h : ∀ q ∈ cl_11_0 ++ (cl_11_1 ++ (cl_11_2 ++ (cl_11_3 ++ (cl_11_4 ++ (cl_11_5 ++ (cl_11_6 ++ (cl_11_7 ++ (cl_11_8 ++ (cl_11_9 ++ (cl_11_10 ++ (cl_11_11 ++ (cl_11_12)))))))))))), cd_11.lookup q.1 = some q.2 := av_ascQ (cd := cd_11) (by decide +kernel)
  obtain ⟨h0, h⟩ := List.forall_mem_append.mp h
  obtain ⟨h1, h⟩ := List.forall_mem_append.mp h
  obtain ⟨h2, h⟩ := List.forall_mem_append.mp h
  obtain ⟨h3, h⟩ := List.forall_mem_append.mp h
  obtain ⟨h4, h⟩ := List.forall_mem_append.mp h
  obtain ⟨h5, h⟩ := List.forall_mem_append.mp h
  obtain ⟨h6, h⟩ := List.forall_mem_append.mp h
  obtain ⟨h7, h⟩ := List.forall_mem_append.mp h
  obtain ⟨h8, h⟩ := List.forall_mem_append.mp h
  obtain ⟨h9, h⟩ := List.forall_mem_append.mp h
  obtain ⟨h10, h⟩ := List.forall_mem_append.mp h
  obtain ⟨h11, h⟩ := List.forall_mem_append.mp h
  have h12 := h
  exact (av_brP (av_brP (av_brP (av_lqP h0) (av_brP (av_lqP h1) (av_lqP h2))) (av_brP (av_lqP h3) (av_brP (av_lqP h4) (av_lqP h5)))) (av_brP (av_brP (av_lqP h6) (av_brP (av_lqP h7) (av_lqP h8))) (av_brP (av_brP (av_lqP h9) (av_lqP h10)) (av_brP (av_lqP h11) (av_lqP h12)))))
def cl_12_0 : List (Nat × av_E) := [(0, av_q (.iconst 0)), (1, av_q (.istore_n 1)), (2, av_q (.iload_n 1)), (3, av_q (.aload_n 0)), (4, av_qf (.getfield 59) 0 12 2), (7, av_qf (.getfield 69) 1 1 0)]
def cl_12_1 : List (Nat × av_E) := [(10, av_qa (.if_icmp .ge 141) 151), (13, av_q (.aload_n 0)), (14, av_qf (.getfield 59) 0 12 2), (17, av_qf (.getfield 103) 1 0 2), (20, av_q (.iload_n 1)), (21, av_q (.bipush 21))]
def cl_12_2 : List (Nat × av_E) := [(23, av_q (.imul)), (24, av_q (.iconst 3)), (25, av_q (.iadd)), (26, av_q (.iaload)), (27, av_q (.istore_n 2)), (28, av_q (.aload_n 0))]
def cl_12_3 : List (Nat × av_E) := [(29, av_qf (.getfield 22) 0 3 2), (32, av_q (.iload_n 1)), (33, av_q (.baload)), (34, av_qa (.ifCond .eq 111) 145), (37, av_q (.iload_n 2)), (38, av_qa (.ifCond .lt 107) 145)]
def cl_12_4 : List (Nat × av_E) := [(41, av_q (.iload_n 2)), (42, av_q (.iload_n 1)), (43, av_qa (.if_icmp .ge 102) 145), (46, av_q (.aload_n 0)), (47, av_qf (.getfield 18) 0 2 2), (50, av_q (.iload_n 2))]
def cl_12_5 : List (Nat × av_E) := [(51, av_q (.baload)), (52, av_qa (.ifCond .eq 93) 145), (55, av_q (.aload_n 0)), (56, av_q (.iload_n 1)), (57, av_q (.aload_n 0)), (58, av_q (.iload_n 1))]
def cl_12_6 : List (Nat × av_E) := [(59, av_qc (.invokevirtual 129) 13 1 0 0), (62, av_qc (.invokevirtual 115) 6 2 0 0), (65, av_q (.istore_n 3)), (66, av_q (.aload_n 0)), (67, av_q (.iload_n 2)), (68, av_q (.iconst 1))]
def cl_12_7 : List (Nat × av_E) := [(69, av_qc (.invokevirtual 115) 6 2 0 0), (72, av_q (.istore 4)), (74, av_q (.iload 4)), (76, av_q (.iconst (-1))), (77, av_qa (.if_icmp .eq 18) 95), (80, av_q (.iload 4))]
def cl_12_8 : List (Nat × av_E) := [(82, av_q (.aload_n 0)), (83, av_q (.iload_n 1)), (84, av_q (.iconst 0)), (85, av_qc (.invokevirtual 115) 6 2 0 0), (88, av_qa (.if_icmp .gt 7) 95), (91, av_q (.iconst 1))]
def cl_12_9 : List (Nat × av_E) := [(92, av_qa (.goto 4) 96), (95, av_q (.iconst 0)), (96, av_q (.istore 5)), (98, av_q (.iload_n 3)), (99, av_q (.aload_n 0)), (100, av_qf (.getfield 56) 0 15 0)]
def cl_12_10 : List (Nat × av_E) := [(103, av_qa (.if_icmp .ge 42) 145), (106, av_q (.iload 5)), (108, av_qa (.ifCond .eq 37) 145), (111, av_q (.aload_n 0)), (112, av_qf (.getfield 40) 0 9 2), (115, av_q (.iload_n 1))]
def cl_12_11 : List (Nat × av_E) := [(116, av_q (.iaload)), (117, av_q (.iload_n 3)), (118, av_qa (.if_icmp .lt 27) 145), (121, av_q (.aload_n 0)), (122, av_q (.iload_n 2)), (123, av_q (.iload_n 3))]
def cl_12_12 : List (Nat × av_E) := [(124, av_qc (.invokevirtual 132) 16 2 0 0), (127, av_qa (.ifCond .eq 18) 145), (130, av_q (.aload_n 0)), (131, av_q (.iload_n 1)), (132, av_qf (.putfield 49) 0 13 0), (135, av_q (.aload_n 0))]
def cl_12_13 : List (Nat × av_E) := [(136, av_q (.iload_n 2)), (137, av_qf (.putfield 53) 0 14 0), (140, av_q (.aload_n 0)), (141, av_q (.iload_n 3)), (142, av_qf (.putfield 56) 0 15 0), (145, av_q (.iinc 1 1))]
def cl_12_14 : List (Nat × av_E) := [(148, av_qa (.goto (-146)) 2), (151, av_q (.return_))]
def cf_12 : Nat → Option av_E := (av_br 68 (av_br 28 (av_br 7 (av_lq cl_12_0) (av_br 21 (av_lq cl_12_1) (av_lq cl_12_2))) (av_br 50 (av_br 38 (av_lq cl_12_3) (av_lq cl_12_4)) (av_br 58 (av_lq cl_12_5) (av_lq cl_12_6)))) (av_br 115 (av_br 91 (av_br 80 (av_lq cl_12_7) (av_lq cl_12_8)) (av_br 100 (av_lq cl_12_9) (av_lq cl_12_10))) (av_br 135 (av_br 123 (av_lq cl_12_11) (av_lq cl_12_12)) (av_br 145 (av_lq cl_12_13) (av_lq cl_12_14)))))
set_option maxRecDepth 100000 in
set_option maxHeartbeats 4000000 in
theorem ck_12 : ∀ (pc : Nat) (x : av_E), cf_12 pc = some x → cd_12.lookup pc = some x := by
  have h : ∀ q ∈ cl_12_0 ++ (cl_12_1 ++ (cl_12_2 ++ (cl_12_3 ++ (cl_12_4 ++ (cl_12_5 ++ (cl_12_6 ++ (cl_12_7 ++ (cl_12_8 ++ (cl_12_9 ++ (cl_12_10 ++ (cl_12_11 ++ (cl_12_12 ++ (cl_12_13 ++ (cl_12_14)))))))))))))), cd_12.lookup q.1 = some q.2 := av_ascQ (cd := cd_12) (by decide +kernel)
  obtain ⟨h0, h⟩ := List.forall_mem_append.mp h
  obtain ⟨h1, h⟩ := List.forall_mem_append.mp h
  obtain ⟨h2, h⟩ := List.forall_mem_append.mp h
  obtain ⟨h3, h⟩ := List.forall_mem_append.mp h
  obtain ⟨h4, h⟩ := List.forall_mem_append.mp h
  obtain ⟨h5, h⟩ := List.forall_mem_append.mp h
  obtain ⟨h6, h⟩ := List.forall_mem_append.mp h
  obtain ⟨h7, h⟩ := List.forall_mem_append.mp h
  obtain ⟨h8, h⟩ := List.forall_mem_append.mp h
  obtain ⟨h9, h⟩ := List.forall_mem_append.mp h
  obtain ⟨h10, h⟩ := List.forall_mem_append.mp h
  obtain ⟨h11, h⟩ := List.forall_mem_append.mp h
  obtain ⟨h12, h⟩ := List.forall_mem_append.mp h
  obtain ⟨h13, h⟩ := List.forall_mem_append.mp h
  have h14 := h
  exact (av_brP (av_brP (av_brP (av_lqP h0) (av_brP (av_lqP h1) (av_lqP h2))) (av_brP (av_brP (av_lqP h3) (av_lqP h4)) (av_brP (av_lqP h5) (av_lqP h6)))) (av_brP (av_brP (av_brP (av_lqP h7) (av_lqP h8)) (av_brP (av_lqP h9) (av_lqP h10))) (av_brP (av_brP (av_lqP h11) (av_lqP h12)) (av_brP (av_lqP h13) (av_lqP h14)))))
def cl_13_0 : List (Nat × av_E) := [(0, av_q (.aload_n 0)), (1, av_qf (.getfield 59) 0 12 2), (4, av_qf (.getfield 103) 1 0 2), (7, av_q (.iload_n 1)), (8, av_q (.bipush 21)), (10, av_q (.imul))]
def cl_13_1 : List (Nat × av_E) := [(11, av_q (.iconst 0)), (12, av_q (.iadd)), (13, av_q (.iaload)), (14, av_q (.bipush 6)), (16, av_qa (.if_icmp .ne 5) 21), (19, av_q (.iconst 0))]
def cl_13_2 : List (Nat × av_E) := [(20, av_q (.ireturn)), (21, av_q (.aload_n 0)), (22, av_qf (.getfield 59) 0 12 2), (25, av_qf (.getfield 103) 1 0 2), (28, av_q (.iload_n 1)), (29, av_q (.bipush 21))]
def cl_13_3 : List (Nat × av_E) := [(31, av_q (.imul)), (32, av_q (.iconst 4)), (33, av_q (.iadd)), (34, av_q (.iaload)), (35, av_q (.istore_n 2)), (36, av_q (.iload_n 2))]
def cl_13_4 : List (Nat × av_E) := [(37, av_qa (.ifCond .lt 8) 45), (40, av_q (.iload_n 2)), (41, av_q (.iconst 2)), (42, av_qa (.if_icmp .le 12) 54), (45, av_q (.aload_n 0)), (46, av_qf (.getfield 46) 0 11 2)]
def cl_13_5 : List (Nat × av_E) := [(49, av_q (.iconst 2)), (50, av_q (.iaload)), (51, av_qa (.goto 9) 60), (54, av_q (.aload_n 0)), (55, av_qf (.getfield 46) 0 11 2), (58, av_q (.iload_n 2))]
def cl_13_6 : List (Nat × av_E) := [(59, av_q (.iaload)), (60, av_q (.ireturn))]
def cf_13 : Nat → Option av_E := (av_br 29 (av_br 10 (av_lq cl_13_0) (av_br 19 (av_lq cl_13_1) (av_lq cl_13_2))) (av_br 46 (av_br 36 (av_lq cl_13_3) (av_lq cl_13_4)) (av_br 58 (av_lq cl_13_5) (av_lq cl_13_6))))
set_option maxRecDepth 100000 in
set_option maxHeartbeats 4000000 in
theorem ck_13 : ∀ (pc : Nat) (x : av_E), cf_13 pc = some x → cd_13.lookup pc = some x := by
  have h : ∀ q ∈ cl_13_0 ++ (cl_13_1 ++ (cl_13_2 ++ (cl_13_3 ++ (cl_13_4 ++ (cl_13_5 ++ (cl_13_6)))))), cd_13.lookup q.1 = some q.2 := av_ascQ (cd := cd_13) (by decide +kernel)
  obtain ⟨h0, h⟩ := List.forall_mem_append.mp h
  obtain ⟨h1, h⟩ := List.forall_mem_append.mp h
  obtain ⟨h2, h⟩ := List.forall_mem_append.mp h
  obtain ⟨h3, h⟩ := List.forall_mem_append.mp h
  obtain ⟨h4, h⟩ := List.forall_mem_append.mp h
  obtain ⟨h5, h⟩ := List.forall_mem_append.mp h
  have h6 := h
  exact (av_brP (av_brP (av_lqP h0) (av_brP (av_lqP h1) (av_lqP h2))) (av_brP (av_brP (av_lqP h3) (av_lqP h4)) (av_brP (av_lqP h5) (av_lqP h6))))
def cl_14_0 : List (Nat × av_E) := [(0, av_q (.iconst 0)), (1, av_q (.istore_n 1)), (2, av_q (.iload_n 1)), (3, av_q (.aload_n 0)), (4, av_qf (.getfield 59) 0 12 2), (7, av_qf (.getfield 69) 1 1 0)]
def cl_14_1 : List (Nat × av_E) := [(10, av_qa (.if_icmp .ge 82) 92), (13, av_q (.aload_n 0)), (14, av_q (.iload_n 1)), (15, av_q (.iconst 2)), (16, av_qc (.invokevirtual 115) 6 2 0 0), (19, av_q (.istore_n 2))]
def cl_14_2 : List (Nat × av_E) := [(20, av_q (.iload_n 2)), (21, av_q (.aload_n 0)), (22, av_qf (.getfield 46) 0 11 2), (25, av_q (.bipush 8)), (27, av_q (.iaload)), (28, av_q (.iadd))]
def cl_14_3 : List (Nat × av_E) := [(29, av_q (.istore_n 3)), (30, av_q (.aload_n 0)), (31, av_qf (.getfield 18) 0 2 2), (34, av_q (.iload_n 1)), (35, av_q (.baload)), (36, av_qa (.ifCond .eq 50) 86)]
def cl_14_4 : List (Nat × av_E) := [(39, av_q (.iload_n 2)), (40, av_q (.iconst (-1))), (41, av_qa (.if_icmp .eq 45) 86), (44, av_q (.iload_n 3)), (45, av_q (.aload_n 0)), (46, av_qf (.getfield 56) 0 15 0)]
def cl_14_5 : List (Nat × av_E) := [(49, av_qa (.if_icmp .ge 37) 86), (52, av_q (.aload_n 0)), (53, av_qf (.getfield 43) 0 10 2), (56, av_q (.iload_n 1)), (57, av_q (.iaload)), (58, av_q (.iload_n 3))]
def cl_14_6 : List (Nat × av_E) := [(59, av_qa (.if_icmp .le 27) 86), (62, av_q (.aload_n 0)), (63, av_q (.iload_n 1)), (64, av_q (.iload_n 3)), (65, av_qc (.invokevirtual 132) 16 2 0 0), (68, av_qa (.ifCond .eq 18) 86)]
def cl_14_7 : List (Nat × av_E) := [(71, av_q (.aload_n 0)), (72, av_q (.iconst (-1))), (73, av_qf (.putfield 49) 0 13 0), (76, av_q (.aload_n 0)), (77, av_q (.iload_n 1)), (78, av_qf (.putfield 53) 0 14 0)]
def cl_14_8 : List (Nat × av_E) := [(81, av_q (.aload_n 0)), (82, av_q (.iload_n 3)), (83, av_qf (.putfield 56) 0 15 0), (86, av_q (.iinc 1 1)), (89, av_qa (.goto (-87)) 2), (92, av_q (.return_))]
def cf_14 : Nat → Option av_E := (av_br 36 (av_br 19 (av_br 7 (av_lq cl_14_0) (av_lq cl_14_1)) (av_br 28 (av_lq cl_14_2) (av_lq cl_14_3))) (av_br 58 (av_br 46 (av_lq cl_14_4) (av_lq cl_14_5)) (av_br 68 (av_lq cl_14_6) (av_br 78 (av_lq cl_14_7) (av_lq cl_14_8)))))
set_option maxRecDepth 100000 in
set_option maxHeartbeats 4000000 in
theorem ck_14 : ∀ (pc : Nat) (x : av_E), cf_14 pc = some x → cd_14.lookup pc = some x := by
  have h : ∀ q ∈ cl_14_0 ++ (cl_14_1 ++ (cl_14_2 ++ (cl_14_3 ++ (cl_14_4 ++ (cl_14_5 ++ (cl_14_6 ++ (cl_14_7 ++ (cl_14_8)))))))), cd_14.lookup q.1 = some q.2 := av_ascQ (cd := cd_14) (by decide +kernel)
  obtain ⟨h0, h⟩ := List.forall_mem_append.mp h
  obtain ⟨h1, h⟩ := List.forall_mem_append.mp h
  obtain ⟨h2, h⟩ := List.forall_mem_append.mp h
  obtain ⟨h3, h⟩ := List.forall_mem_append.mp h
  obtain ⟨h4, h⟩ := List.forall_mem_append.mp h
  obtain ⟨h5, h⟩ := List.forall_mem_append.mp h
  obtain ⟨h6, h⟩ := List.forall_mem_append.mp h
  obtain ⟨h7, h⟩ := List.forall_mem_append.mp h
  have h8 := h
  exact (av_brP (av_brP (av_brP (av_lqP h0) (av_lqP h1)) (av_brP (av_lqP h2) (av_lqP h3))) (av_brP (av_brP (av_lqP h4) (av_lqP h5)) (av_brP (av_lqP h6) (av_brP (av_lqP h7) (av_lqP h8)))))
def cl_15_0 : List (Nat × av_E) := [(0, av_q (.aload_n 0)), (1, av_qf (.getfield 59) 0 12 2), (4, av_q (.iload_n 1)), (5, av_qc (.invokevirtual 136) 28 1 0 1), (8, av_qa (.ifCond .eq 16) 24), (11, av_q (.aload_n 0))]
def cl_15_1 : List (Nat × av_E) := [(12, av_qf (.getfield 18) 0 2 2), (15, av_q (.iload_n 1)), (16, av_q (.baload)), (17, av_qa (.ifCond .eq 7) 24), (20, av_q (.iconst 1)), (21, av_qa (.goto 4) 25)]
def cl_15_2 : List (Nat × av_E) := [(24, av_q (.iconst 0)), (25, av_qa (.ireturn) 1)]
def cf_15 : Nat → Option av_E := (av_br 11 (av_lq cl_15_0) (av_br 21 (av_lq cl_15_1) (av_lq cl_15_2)))
set_option maxRecDepth 100000 in
set_option maxHeartbeats 4000000 in
theorem ck_15 : ∀ (pc : Nat) (x : av_E), cf_15 pc = some x → cd_15.lookup pc = some x := by
  have h : ∀ q ∈ cl_15_0 ++ (cl_15_1 ++ (cl_15_2)), cd_15.lookup q.1 = some q.2 := av_ascQ (cd := cd_15) (by decide +kernel)
  obtain ⟨h0, h⟩ := List.forall_mem_append.mp h
  obtain ⟨h1, h⟩ := List.forall_mem_append.mp h
  have h2 := h
  exact (av_brP (av_lqP h0) (av_brP (av_lqP h1) (av_lqP h2)))
def cl_16_0 : List (Nat × av_E) := [(0, av_q (.iload_n 2)), (1, av_q (.iconst (-1))), (2, av_qa (.if_icmp .eq 37) 39), (5, av_q (.aload_n 0)), (6, av_qf (.getfield 28) 0 5 2), (9, av_q (.iload_n 1))]
def cl_16_1 : List (Nat × av_E) := [(10, av_q (.iaload)), (11, av_q (.iconst (-1))), (12, av_qa (.if_icmp .eq 27) 39), (15, av_q (.iload_n 2)), (16, av_q (.aload_n 0)), (17, av_qf (.getfield 28) 0 5 2)]
def cl_16_2 : List (Nat × av_E) := [(20, av_q (.iload_n 1)), (21, av_q (.iaload)), (22, av_qa (.if_icmp .lt 17) 39), (25, av_q (.iload_n 2)), (26, av_q (.aload_n 0)), (27, av_qf (.getfield 31) 0 6 2)]
def cl_16_3 : List (Nat × av_E) := [(30, av_q (.iload_n 1)), (31, av_q (.iaload)), (32, av_qa (.if_icmp .ge 7) 39), (35, av_q (.iconst 1)), (36, av_qa (.goto 4) 40), (39, av_q (.iconst 0))]
def cl_16_4 : List (Nat × av_E) := [(40, av_qa (.ireturn) 1)]
def cf_16 : Nat → Option av_E := (av_br 17 (av_br 9 (av_lq cl_16_0) (av_lq cl_16_1)) (av_br 27 (av_lq cl_16_2) (av_br 39 (av_lq cl_16_3) (av_lq cl_16_4))))
set_option maxRecDepth 100000 in
set_option maxHeartbeats 4000000 in
theorem ck_16 : ∀ (pc : Nat) (x : av_E), cf_16 pc = some x → cd_16.lookup pc = some x := by
  have h : ∀ q ∈ cl_16_0 ++ (cl_16_1 ++ (cl_16_2 ++ (cl_16_3 ++ (cl_16_4)))), cd_16.lookup q.1 = some q.2 := av_ascQ (cd := cd_16) (by decide +kernel)
  obtain ⟨h0, h⟩ := List.forall_mem_append.mp h
  obtain ⟨h1, h⟩ := List.forall_mem_append.mp h
  obtain ⟨h2, h⟩ := List.forall_mem_append.mp h
  obtain ⟨h3, h⟩ := List.forall_mem_append.mp h
  have h4 := h
  exact (av_brP (av_brP (av_lqP h0) (av_lqP h1)) (av_brP (av_lqP h2) (av_brP (av_lqP h3) (av_lqP h4))))
def cl_17_0 : List (Nat × av_E) := [(0, av_q (.aload_n 0)), (1, av_qf (.getfield 59) 0 12 2), (4, av_q (.aload_n 0)), (5, av_qf (.getfield 49) 0 13 0), (8, av_q (.iconst 0)), (9, av_qc (.invokevirtual 74) 29 2 0 1)]
def cl_17_1 : List (Nat × av_E) := [(12, av_q (.iconst 3)), (13, av_qa (.if_icmp .ne 7) 20), (16, av_q (.iconst 1)), (17, av_qa (.goto 4) 21), (20, av_q (.iconst 0)), (21, av_q (.istore_n 2))]
def cl_17_2 : List (Nat × av_E) := [(22, av_q (.iload_n 2)), (23, av_qa (.ifCond .eq 21) 44), (26, av_q (.aload_n 0)), (27, av_qf (.getfield 59) 0 12 2), (30, av_q (.aload_n 0)), (31, av_qf (.getfield 49) 0 13 0)]
def cl_17_3 : List (Nat × av_E) := [(34, av_q (.bipush 10)), (36, av_q (.iload_n 1)), (37, av_q (.iadd)), (38, av_qc (.invokevirtual 74) 29 2 0 1), (41, av_qa (.goto 4) 45), (44, av_q (.iconst (-1)))]
def cl_17_4 : List (Nat × av_E) := [(45, av_q (.istore_n 3)), (46, av_q (.iload_n 3)), (47, av_q (.iconst (-1))), (48, av_qa (.if_icmp .eq 16) 64), (51, av_q (.aload_n 0)), (52, av_qf (.getfield 46) 0 11 2)]
def cl_17_5 : List (Nat × av_E) := [(55, av_q (.bipush 10)), (57, av_q (.iaload)), (58, av_q (.iconst 1)), (59, av_qa (.if_icmp .ne 5) 64), (62, av_q (.iload_n 3)), (63, av_q (.ireturn))]
def cl_17_6 : List (Nat × av_E) := [(64, av_q (.iload_n 3)), (65, av_q (.iconst (-1))), (66, av_qa (.if_icmp .eq 18) 84), (69, av_q (.aload_n 0)), (70, av_qf (.getfield 46) 0 11 2), (73, av_q (.bipush 10))]
def cl_17_7 : List (Nat × av_E) := [(75, av_q (.iaload)), (76, av_q (.iconst 2)), (77, av_qa (.if_icmp .ne 7) 84), (80, av_q (.iconst (-1))), (81, av_qa (.goto 15) 96), (84, av_q (.aload_n 0))]
def cl_17_8 : List (Nat × av_E) := [(85, av_qf (.getfield 59) 0 12 2), (88, av_q (.aload_n 0)), (89, av_qf (.getfield 53) 0 14 0), (92, av_q (.iload_n 1)), (93, av_qc (.invokevirtual 139) 31 2 0 1), (96, av_q (.ireturn))]
def cf_17 : Nat → Option av_E := (av_br 44 (av_br 21 (av_br 9 (av_lq cl_17_0) (av_lq cl_17_1)) (av_br 31 (av_lq cl_17_2) (av_lq cl_17_3))) (av_br 63 (av_br 52 (av_lq cl_17_4) (av_lq cl_17_5)) (av_br 73 (av_lq cl_17_6) (av_br 84 (av_lq cl_17_7) (av_lq cl_17_8)))))
set_option maxRecDepth 100000 in
set_option maxHeartbeats 4000000 in
theorem ck_17 : ∀ (pc : Nat) (x : av_E), cf_17 pc = some x → cd_17.lookup pc = some x := by
  have h : ∀ q ∈ cl_17_0 ++ (cl_17_1 ++ (cl_17_2 ++ (cl_17_3 ++ (cl_17_4 ++ (cl_17_5 ++ (cl_17_6 ++ (cl_17_7 ++ (cl_17_8)))))))), cd_17.lookup q.1 = some q.2 := av_ascQ (cd := cd_17) (by decide +kernel)
  obtain ⟨h0, h⟩ := List.forall_mem_append.mp h
  obtain ⟨h1, h⟩ := List.forall_mem_append.mp h
  obtain ⟨h2, h⟩ := List.forall_mem_append.mp h
  obtain ⟨h3, h⟩ := List.forall_mem_append.mp h
  obtain ⟨h4, h⟩ := List.forall_mem_append.mp h
  obtain ⟨h5, h⟩ := List.forall_mem_append.mp h
  obtain ⟨h6, h⟩ := List.forall_mem_append.mp h
  obtain ⟨h7, h⟩ := List.forall_mem_append.mp h
  have h8 := h
  exact (av_brP (av_brP (av_brP (av_lqP h0) (av_lqP h1)) (av_brP (av_lqP h2) (av_lqP h3))) (av_brP (av_brP (av_lqP h4) (av_lqP h5)) (av_brP (av_lqP h6) (av_brP (av_lqP h7) (av_lqP h8)))))
def cl_18_0 : List (Nat × av_E) := [(0, av_q (.aload_n 0)), (1, av_qf (.getfield 59) 0 12 2), (4, av_q (.aload_n 0)), (5, av_qf (.getfield 53) 0 14 0), (8, av_q (.iconst 1)), (9, av_qc (.invokevirtual 74) 29 2 0 1)]
def cl_18_1 : List (Nat × av_E) := [(12, av_q (.istore_n 1)), (13, av_q (.aload_n 0)), (14, av_qf (.getfield 59) 0 12 2), (17, av_q (.aload_n 0)), (18, av_qf (.getfield 53) 0 14 0), (21, av_q (.iconst 2))]
def cl_18_2 : List (Nat × av_E) := [(22, av_qc (.invokevirtual 74) 29 2 0 1), (25, av_q (.istore_n 2)), (26, av_q (.iload_n 1)), (27, av_qa (.ifCond .lt 7) 34), (30, av_q (.iload_n 2)), (31, av_qa (.ifCond .ge 7) 38)]
def cl_18_3 : List (Nat × av_E) := [(34, av_q (.iconst 0)), (35, av_qa (.goto 10) 45), (38, av_q (.iconst 1)), (39, av_q (.iload_n 1)), (40, av_q (.ishl)), (41, av_q (.iconst 1))]
def cl_18_4 : List (Nat × av_E) := [(42, av_q (.iload_n 2)), (43, av_q (.ishl)), (44, av_q (.ior)), (45, av_q (.ireturn))]
def cf_18 : Nat → Option av_E := (av_br 21 (av_br 9 (av_lq cl_18_0) (av_lq cl_18_1)) (av_br 31 (av_lq cl_18_2) (av_br 41 (av_lq cl_18_3) (av_lq cl_18_4))))
set_option maxRecDepth 100000 in
set_option maxHeartbeats 4000000 in
theorem ck_18 : ∀ (pc : Nat) (x : av_E), cf_18 pc = some x → cd_18.lookup pc = some x := by
  have h : ∀ q ∈ cl_18_0 ++ (cl_18_1 ++ (cl_18_2 ++ (cl_18_3 ++ (cl_18_4)))), cd_18.lookup q.1 = some q.2 := av_ascQ (cd := cd_18) (by decide +kernel)
  obtain ⟨h0, h⟩ := List.forall_mem_append.mp h
  obtain ⟨h1, h⟩ := List.forall_mem_append.mp h
  obtain ⟨h2, h⟩ := List.forall_mem_append.mp h
  obtain ⟨h3, h⟩ := List.forall_mem_append.mp h
  have h4 := h
  exact (av_brP (av_brP (av_lqP h0) (av_lqP h1)) (av_brP (av_lqP h2) (av_brP (av_lqP h3) (av_lqP h4))))
def cl_19_0 : List (Nat × av_E) := [(0, av_q (.aload_n 0)), (1, av_qc (.invokevirtual 142) 3 0 0 0), (4, av_qa (.ifCond .ne 5) 9), (7, av_q (.iconst (-1))), (8, av_q (.ireturn)), (9, av_q (.aload_n 0))]
def cl_19_1 : List (Nat × av_E) := [(10, av_qc (.invokevirtual 146) 20 0 0 0), (13, av_q (.istore_n 2)), (14, av_q (.iload_n 2)), (15, av_q (.sipush 9999)), (18, av_qa (.if_icmp .eq 19) 37), (21, av_q (.iload_n 1))]
def cl_19_2 : List (Nat × av_E) := [(22, av_q (.iload_n 2)), (23, av_q (.aload_n 0)), (24, av_qf (.getfield 56) 0 15 0), (27, av_qa (.invokestatic 106) 1001), (30, av_qa (.if_icmp .lt 7) 37), (33, av_q (.iconst 1))]
def cl_19_3 : List (Nat × av_E) := [(34, av_qa (.goto 4) 38), (37, av_q (.iconst 0)), (38, av_q (.istore_n 3)), (39, av_q (.aload_n 0)), (40, av_qf (.getfield 59) 0 12 2), (43, av_q (.aload_n 0))]
def cl_19_4 : List (Nat × av_E) := [(44, av_qf (.getfield 53) 0 14 0), (47, av_q (.iload_n 3)), (48, av_qa (.ifCond .eq 7) 55), (51, av_q (.iconst 2)), (52, av_qa (.goto 4) 56), (55, av_q (.iconst 1))]
def cl_19_5 : List (Nat × av_E) := [(56, av_qc (.invokevirtual 74) 29 2 0 1), (59, av_q (.ireturn))]
def cf_19 : Nat → Option av_E := (av_br 33 (av_br 9 (av_lq cl_19_0) (av_br 21 (av_lq cl_19_1) (av_lq cl_19_2))) (av_br 43 (av_lq cl_19_3) (av_br 55 (av_lq cl_19_4) (av_lq cl_19_5))))
set_option maxRecDepth 100000 in
set_option maxHeartbeats 4000000 in
theorem ck_19 : ∀ (pc : Nat) (x : av_E), cf_19 pc = some x → cd_19.lookup pc = some x := by
  have h : ∀ q ∈ cl_19_0 ++ (cl_19_1 ++ (cl_19_2 ++ (cl_19_3 ++ (cl_19_4 ++ (cl_19_5))))), cd_19.lookup q.1 = some q.2 := av_ascQ (cd := cd_19) (by decide +kernel)
  obtain ⟨h0, h⟩ := List.forall_mem_append.mp h
  obtain ⟨h1, h⟩ := List.forall_mem_append.mp h
  obtain ⟨h2, h⟩ := List.forall_mem_append.mp h
  obtain ⟨h3, h⟩ := List.forall_mem_append.mp h
  obtain ⟨h4, h⟩ := List.forall_mem_append.mp h
  have h5 := h
  exact (av_brP (av_brP (av_lqP h0) (av_brP (av_lqP h1) (av_lqP h2))) (av_brP (av_lqP h3) (av_brP (av_lqP h4) (av_lqP h5))))
def cl_20_0 : List (Nat × av_E) := [(0, av_q (.aload_n 0)), (1, av_qf (.getfield 46) 0 11 2), (4, av_q (.bipush 12)), (6, av_q (.iaload)), (7, av_qa (.ifCond .ne 8) 15), (10, av_q (.aload_n 0))]
def cl_20_1 : List (Nat × av_E) := [(11, av_qf (.getfield 56) 0 15 0), (14, av_q (.ireturn)), (15, av_q (.sipush 9999)), (18, av_q (.istore_n 1)), (19, av_q (.iconst 0)), (20, av_q (.istore_n 2))]
def cl_20_2 : List (Nat × av_E) := [(21, av_q (.iload_n 2)), (22, av_q (.aload_n 0)), (23, av_qf (.getfield 59) 0 12 2), (26, av_qf (.getfield 69) 1 1 0), (29, av_qa (.if_icmp .ge 69) 98), (32, av_q (.aload_n 0))]
def cl_20_3 : List (Nat × av_E) := [(33, av_qf (.getfield 59) 0 12 2), (36, av_q (.iload_n 2)), (37, av_q (.iconst 0)), (38, av_qc (.invokevirtual 74) 29 2 0 1), (41, av_q (.bipush 7)), (43, av_qa (.if_icmp .ne 49) 92)]
def cl_20_4 : List (Nat × av_E) := [(46, av_q (.aload_n 0)), (47, av_qf (.getfield 59) 0 12 2), (50, av_q (.iload_n 2)), (51, av_q (.iconst 3)), (52, av_qc (.invokevirtual 74) 29 2 0 1), (55, av_q (.aload_n 0))]
def cl_20_5 : List (Nat × av_E) := [(56, av_qf (.getfield 53) 0 14 0), (59, av_qa (.if_icmp .ne 33) 92), (62, av_q (.aload_n 0)), (63, av_q (.iload_n 2)), (64, av_q (.aload_n 0)), (65, av_qf (.getfield 46) 0 11 2)]
def cl_20_6 : List (Nat × av_E) := [(68, av_q (.bipush 12)), (70, av_q (.iaload)), (71, av_q (.iconst 1)), (72, av_q (.isub)), (73, av_qc (.invokevirtual 115) 6 2 0 0), (76, av_q (.istore_n 3))]
def cl_20_7 : List (Nat × av_E) := [(77, av_q (.iload_n 3)), (78, av_q (.iconst (-1))), (79, av_qa (.if_icmp .ne 7) 86), (82, av_q (.iload_n 1)), (83, av_qa (.goto 8) 91), (86, av_q (.iload_n 1))]
def cl_20_8 : List (Nat × av_E) := [(87, av_q (.iload_n 3)), (88, av_qa (.invokestatic 122) 1002), (91, av_q (.istore_n 1)), (92, av_q (.iinc 2 1)), (95, av_qa (.goto (-74)) 21), (98, av_q (.iload_n 1))]
def cl_20_9 : List (Nat × av_E) := [(99, av_q (.ireturn))]
def cf_20 : Nat → Option av_E := (av_br 55 (av_br 20 (av_br 10 (av_lq cl_20_0) (av_lq cl_20_1)) (av_br 32 (av_lq cl_20_2) (av_br 43 (av_lq cl_20_3) (av_lq cl_20_4)))) (av_br 76 (av_br 65 (av_lq cl_20_5) (av_lq cl_20_6)) (av_br 86 (av_lq cl_20_7) (av_br 98 (av_lq cl_20_8) (av_lq cl_20_9)))))
set_option maxRecDepth 100000 in
set_option maxHeartbeats 4000000 in
theorem ck_20 : ∀ (pc : Nat) (x : av_E), cf_20 pc = some x → cd_20.lookup pc = some x := by
  have h : ∀ q ∈ cl_20_0 ++ (cl_20_1 ++ (cl_20_2 ++ (cl_20_3 ++ (cl_20_4 ++ (cl_20_5 ++ (cl_20_6 ++ (cl_20_7 ++ (cl_20_8 ++ (cl_20_9))))))))), cd_20.lookup q.1 = some q.2 := av_ascQ (cd := cd_20) (by decide +kernel)
  obtain ⟨h0, h⟩ := List.forall_mem_append.mp h
  obtain ⟨h1, h⟩ := List.forall_mem_append.mp h
  obtain ⟨h2, h⟩ := List.forall_mem_append.mp h
  obtain ⟨h3, h⟩ := List.forall_mem_append.mp h
  obtain ⟨h4, h⟩ := List.forall_mem_append.mp h
  obtain ⟨h5, h⟩ := List.forall_mem_append.mp h
  obtain ⟨h6, h⟩ := List.forall_mem_append.mp h
  obtain ⟨h7, h⟩ := List.forall_mem_append.mp h
  obtain ⟨h8, h⟩ := List.forall_mem_append.mp h
  have h9 := h
  exact (av_brP (av_brP (av_brP (av_lqP h0) (av_lqP h1)) (av_brP (av_lqP h2) (av_brP (av_lqP h3) (av_lqP h4)))) (av_brP (av_brP (av_lqP h5) (av_lqP h6)) (av_brP (av_lqP h7) (av_brP (av_lqP h8) (av_lqP h9)))))
def cl_21_0 : List (Nat × av_E) := [(0, av_q (.aload_n 0)), (1, av_qf (.getfield 59) 0 12 2), (4, av_q (.iload_n 1)), (5, av_qc (.invokevirtual 136) 28 1 0 1), (8, av_qa (.ifCond .ne 5) 13), (11, av_q (.iconst 0))]
def cl_21_1 : List (Nat × av_E) := [(12, av_q (.ireturn)), (13, av_q (.aload_n 0)), (14, av_qf (.getfield 59) 0 12 2), (17, av_q (.iload_n 1)), (18, av_q (.iconst 3)), (19, av_qc (.invokevirtual 74) 29 2 0 1)]
def cl_21_2 : List (Nat × av_E) := [(22, av_q (.istore_n 2)), (23, av_q (.aload_n 0)), (24, av_qf (.getfield 28) 0 5 2), (27, av_q (.iload_n 1)), (28, av_q (.iaload)), (29, av_q (.iconst (-1)))]
def cl_21_3 : List (Nat × av_E) := [(30, av_qa (.if_icmp .eq 7) 37), (33, av_q (.iconst 1)), (34, av_qa (.goto 4) 38), (37, av_q (.iconst 0)), (38, av_q (.istore_n 3)), (39, av_q (.aload_n 0))]
def cl_21_4 : List (Nat × av_E) := [(40, av_qf (.getfield 59) 0 12 2), (43, av_q (.iload_n 2)), (44, av_qc (.invokevirtual 136) 28 1 0 1), (47, av_qa (.ifCond .eq 17) 64), (50, av_q (.aload_n 0)), (51, av_qf (.getfield 37) 0 8 2)]
def cl_21_5 : List (Nat × av_E) := [(54, av_q (.iload_n 2)), (55, av_q (.iaload)), (56, av_q (.iload_n 1)), (57, av_qa (.if_icmp .ne 7) 64), (60, av_q (.iload_n 3)), (61, av_q (.iconst 2))]
def cl_21_6 : List (Nat × av_E) := [(62, av_q (.ior)), (63, av_q (.istore_n 3)), (64, av_q (.aload_n 0)), (65, av_qc (.invokevirtual 142) 3 0 0 0), (68, av_qa (.ifCond .eq 15) 83), (71, av_q (.aload_n 0))]
def cl_21_7 : List (Nat × av_E) := [(72, av_qf (.getfield 49) 0 13 0), (75, av_q (.iload_n 1)), (76, av_qa (.if_icmp .ne 7) 83), (79, av_q (.iload_n 3)), (80, av_q (.iconst 4)), (81, av_q (.ior))]
def cl_21_8 : List (Nat × av_E) := [(82, av_q (.istore_n 3)), (83, av_q (.aload_n 0)), (84, av_qf (.getfield 59) 0 12 2), (87, av_q (.iload_n 1)), (88, av_q (.iconst 0)), (89, av_qc (.invokevirtual 74) 29 2 0 1)]
def cl_21_9 : List (Nat × av_E) := [(92, av_q (.iconst 5)), (93, av_qa (.if_icmp .ne 19) 112), (96, av_q (.aload_n 0)), (97, av_q (.iload_n 1)), (98, av_q (.iload_n 2)), (99, av_qc (.invokevirtual 150) 22 2 0 0)]
def cl_21_10 : List (Nat × av_E) := [(102, av_qa (.ifCond .eq 10) 112), (105, av_q (.iload_n 3)), (106, av_q (.bipush 8)), (108, av_q (.ior)), (109, av_qa (.goto 4) 113), (112, av_q (.iload_n 3))]
def cl_21_11 : List (Nat × av_E) := [(113, av_q (.ireturn))]
def cf_21 : Nat → Option av_E := (av_br 61 (av_br 29 (av_br 11 (av_lq cl_21_0) (av_br 19 (av_lq cl_21_1) (av_lq cl_21_2))) (av_br 39 (av_lq cl_21_3) (av_br 51 (av_lq cl_21_4) (av_lq cl_21_5)))) (av_br 89 (av_br 71 (av_lq cl_21_6) (av_br 81 (av_lq cl_21_7) (av_lq cl_21_8))) (av_br 99 (av_lq cl_21_9) (av_br 112 (av_lq cl_21_10) (av_lq cl_21_11)))))
set_option maxRecDepth 100000 in
set_option maxHeartbeats 4000000 in
theorem ck_21 : ∀ (pc : Nat) (x : av_E), cf_21 pc = some x → cd_21.lookup pc = some x := by
  have h : ∀ q ∈ cl_21_0 ++ (cl_21_1 ++ (cl_21_2 ++ (cl_21_3 ++ (cl_21_4 ++ (cl_21_5 ++ (cl_21_6 ++ (cl_21_7 ++ (cl_21_8 ++ (cl_21_9 ++ (cl_21_10 ++ (cl_21_11))))))))))), cd_21.lookup q.1 = some q.2 := av_ascQ (cd := cd_21) (by decide +kernel)
  obtain ⟨h0, h⟩ := List.forall_mem_append.mp h
  obtain ⟨h1, h⟩ := List.forall_mem_append.mp h
  obtain ⟨h2, h⟩ := List.forall_mem_append.mp h
  obtain ⟨h3, h⟩ := List.forall_mem_append.mp h
  obtain ⟨h4, h⟩ := List.forall_mem_append.mp h
  obtain ⟨h5, h⟩ := List.forall_mem_append.mp h
  obtain ⟨h6, h⟩ := List.forall_mem_append.mp h
  obtain ⟨h7, h⟩ := List.forall_mem_append.mp h
  obtain ⟨h8, h⟩ := List.forall_mem_append.mp h
  obtain ⟨h9, h⟩ := List.forall_mem_append.mp h
  obtain ⟨h10, h⟩ := List.forall_mem_append.mp h
  have h11 := h
  exact (av_brP (av_brP (av_brP (av_lqP h0) (av_brP (av_lqP h1) (av_lqP h2))) (av_brP (av_lqP h3) (av_brP (av_lqP h4) (av_lqP h5)))) (av_brP (av_brP (av_lqP h6) (av_brP (av_lqP h7) (av_lqP h8))) (av_brP (av_lqP h9) (av_brP (av_lqP h10) (av_lqP h11)))))
def cl_22_0 : List (Nat × av_E) := [(0, av_q (.aload_n 0)), (1, av_qf (.getfield 59) 0 12 2), (4, av_q (.iload_n 2)), (5, av_qc (.invokevirtual 136) 28 1 0 1), (8, av_qa (.ifCond .eq 12) 20), (11, av_q (.aload_n 0))]
def cl_22_1 : List (Nat × av_E) := [(12, av_qf (.getfield 22) 0 3 2), (15, av_q (.iload_n 2)), (16, av_q (.baload)), (17, av_qa (.ifCond .ne 5) 22), (20, av_q (.iconst 0)), (21, av_qa (.ireturn) 1)]
def cl_22_2 : List (Nat × av_E) := [(22, av_q (.aload_n 0)), (23, av_q (.iload_n 1)), (24, av_q (.aload_n 0)), (25, av_qf (.getfield 46) 0 11 2), (28, av_q (.iconst 4)), (29, av_q (.iaload))]
def cl_22_3 : List (Nat × av_E) := [(30, av_qc (.invokevirtual 115) 6 2 0 0), (33, av_q (.istore_n 3)), (34, av_q (.aload_n 0)), (35, av_q (.iload_n 2)), (36, av_q (.aload_n 0)), (37, av_q (.iload_n 2))]
def cl_22_4 : List (Nat × av_E) := [(38, av_qc (.invokevirtual 129) 13 1 0 0), (41, av_qc (.invokevirtual 115) 6 2 0 0), (44, av_q (.istore 4)), (46, av_q (.iload_n 3)), (47, av_q (.iconst (-1))), (48, av_qa (.if_icmp .eq 19) 67)]
def cl_22_5 : List (Nat × av_E) := [(51, av_q (.iload 4)), (53, av_q (.iconst (-1))), (54, av_qa (.if_icmp .eq 13) 67), (57, av_q (.iload_n 3)), (58, av_q (.iload 4)), (60, av_qa (.if_icmp .ge 7) 67)]
def cl_22_6 : List (Nat × av_E) := [(63, av_q (.iconst 1)), (64, av_qa (.goto 4) 68), (67, av_q (.iconst 0)), (68, av_qa (.ireturn) 1)]
def cf_22 : Nat → Option av_E := (av_br 29 (av_br 11 (av_lq cl_22_0) (av_br 21 (av_lq cl_22_1) (av_lq cl_22_2))) (av_br 48 (av_br 37 (av_lq cl_22_3) (av_lq cl_22_4)) (av_br 60 (av_lq cl_22_5) (av_lq cl_22_6))))
set_option maxRecDepth 100000 in
set_option maxHeartbeats 4000000 in
theorem ck_22 : ∀ (pc : Nat) (x : av_E), cf_22 pc = some x → cd_22.lookup pc = some x := by
  have h : ∀ q ∈ cl_22_0 ++ (cl_22_1 ++ (cl_22_2 ++ (cl_22_3 ++ (cl_22_4 ++ (cl_22_5 ++ (cl_22_6)))))), cd_22.lookup q.1 = some q.2 := av_ascQ (cd := cd_22) (by decide +kernel)
  obtain ⟨h0, h⟩ := List.forall_mem_append.mp h
  obtain ⟨h1, h⟩ := List.forall_mem_append.mp h
  obtain ⟨h2, h⟩ := List.forall_mem_append.mp h
  obtain ⟨h3, h⟩ := List.forall_mem_append.mp h
  obtain ⟨h4, h⟩ := List.forall_mem_append.mp h
  obtain ⟨h5, h⟩ := List.forall_mem_append.mp h
  have h6 := h
  exact (av_brP (av_brP (av_lqP h0) (av_brP (av_lqP h1) (av_lqP h2))) (av_brP (av_brP (av_lqP h3) (av_lqP h4)) (av_brP (av_lqP h5) (av_lqP h6))))
def cl_23_0 : List (Nat × av_E) := [(0, av_q (.iconst 0)), (1, av_q (.istore 4)), (3, av_q (.iload 4)), (5, av_q (.aload_n 0)), (6, av_qf (.getfield 59) 0 12 2), (9, av_qf (.getfield 69) 1 1 0)]
def cl_23_1 : List (Nat × av_E) := [(12, av_qa (.if_icmp .ge 33) 45), (15, av_q (.iload_n 3)), (16, av_q (.aload_n 0)), (17, av_q (.iload 4)), (19, av_q (.iload_n 1)), (20, av_q (.iload_n 2))]
def cl_23_2 : List (Nat × av_E) := [(21, av_qc (.invokevirtual 153) 25 3 0 0), (24, av_qa (.if_icmp .lt 15) 39), (27, av_q (.iload_n 3)), (28, av_q (.aload_n 0)), (29, av_q (.iload 4)), (31, av_qc (.invokevirtual 157) 26 1 0 0)]
def cl_23_3 : List (Nat × av_E) := [(34, av_qa (.if_icmp .gt 5) 39), (37, av_q (.iconst 1)), (38, av_qa (.ireturn) 1), (39, av_q (.iinc 4 1)), (42, av_qa (.goto (-39)) 3), (45, av_q (.iconst 0))]
def cl_23_4 : List (Nat × av_E) := [(46, av_qa (.ireturn) 1)]
def cf_23 : Nat → Option av_E := (av_br 20 (av_br 9 (av_lq cl_23_0) (av_lq cl_23_1)) (av_br 31 (av_lq cl_23_2) (av_br 45 (av_lq cl_23_3) (av_lq cl_23_4))))
set_option maxRecDepth 100000 in
set_option maxHeartbeats 4000000 in
theorem ck_23 : ∀ (pc : Nat) (x : av_E), cf_23 pc = some x → cd_23.lookup pc = some x := by
  have h : ∀ q ∈ cl_23_0 ++ (cl_23_1 ++ (cl_23_2 ++ (cl_23_3 ++ (cl_23_4)))), cd_23.lookup q.1 = some q.2 := av_ascQ (cd := cd_23) (by decide +kernel)
  obtain ⟨h0, h⟩ := List.forall_mem_append.mp h
  obtain ⟨h1, h⟩ := List.forall_mem_append.mp h
  obtain ⟨h2, h⟩ := List.forall_mem_append.mp h
  obtain ⟨h3, h⟩ := List.forall_mem_append.mp h
  have h4 := h
  exact (av_brP (av_brP (av_lqP h0) (av_lqP h1)) (av_brP (av_lqP h2) (av_brP (av_lqP h3) (av_lqP h4))))
def cl_24_0 : List (Nat × av_E) := [(0, av_q (.iconst (-1))), (1, av_q (.istore_n 3)), (2, av_q (.iconst 0)), (3, av_q (.istore 4)), (5, av_q (.iload 4)), (7, av_q (.aload_n 0))]
def cl_24_1 : List (Nat × av_E) := [(8, av_qf (.getfield 59) 0 12 2), (11, av_qf (.getfield 69) 1 1 0), (14, av_qa (.if_icmp .ge 37) 51), (17, av_q (.aload_n 0)), (18, av_q (.iload 4)), (20, av_q (.iload_n 1))]
def cl_24_2 : List (Nat × av_E) := [(21, av_q (.iload_n 2)), (22, av_qc (.invokevirtual 153) 25 3 0 0), (25, av_q (.aload_n 0)), (26, av_q (.iload 4)), (28, av_qc (.invokevirtual 157) 26 1 0 0), (31, av_qa (.if_icmp .gt 14) 45)]
def cl_24_3 : List (Nat × av_E) := [(34, av_q (.iload_n 3)), (35, av_q (.aload_n 0)), (36, av_q (.iload 4)), (38, av_qc (.invokevirtual 157) 26 1 0 0), (41, av_qa (.invokestatic 106) 1001), (44, av_q (.istore_n 3))]
def cl_24_4 : List (Nat × av_E) := [(45, av_q (.iinc 4 1)), (48, av_qa (.goto (-43)) 5), (51, av_q (.iload_n 3)), (52, av_q (.ireturn))]
def cf_24 : Nat → Option av_E := (av_br 20 (av_br 7 (av_lq cl_24_0) (av_lq cl_24_1)) (av_br 31 (av_lq cl_24_2) (av_br 44 (av_lq cl_24_3) (av_lq cl_24_4))))
set_option maxRecDepth 100000 in
set_option maxHeartbeats 4000000 in
theorem ck_24 : ∀ (pc : Nat) (x : av_E), cf_24 pc = some x → cd_24.lookup pc = some x := by
  have h : ∀ q ∈ cl_24_0 ++ (cl_24_1 ++ (cl_24_2 ++ (cl_24_3 ++ (cl_24_4)))), cd_24.lookup q.1 = some q.2 := av_ascQ (cd := cd_24) (by decide +kernel)
  obtain ⟨h0, h⟩ := List.forall_mem_append.mp h
  obtain ⟨h1, h⟩ := List.forall_mem_append.mp h
  obtain ⟨h2, h⟩ := List.forall_mem_append.mp h
  obtain ⟨h3, h⟩ := List.forall_mem_append.mp h
  have h4 := h
  exact (av_brP (av_brP (av_lqP h0) (av_lqP h1)) (av_brP (av_lqP h2) (av_brP (av_lqP h3) (av_lqP h4))))
def cl_25_0 : List (Nat × av_E) := [(0, av_q (.aload_n 0)), (1, av_q (.iload_n 1)), (2, av_qc (.invokevirtual 160) 15 1 0 0), (5, av_qa (.ifCond .eq 35) 40), (8, av_q (.aload_n 0)), (9, av_qf (.getfield 28) 0 5 2)]
def cl_25_1 : List (Nat × av_E) := [(12, av_q (.iload_n 1)), (13, av_q (.iaload)), (14, av_q (.iconst (-1))), (15, av_qa (.if_icmp .eq 25) 40), (18, av_q (.aload_n 0)), (19, av_qf (.getfield 59) 0 12 2)]
def cl_25_2 : List (Nat × av_E) := [(22, av_q (.iload_n 1)), (23, av_q (.iload_n 3)), (24, av_q (.iconst 1)), (25, av_qa (.if_icmp .ne 7) 32), (28, av_q (.iconst 1)), (29, av_qa (.goto 4) 33)]
def cl_25_3 : List (Nat × av_E) := [(32, av_q (.iconst 2)), (33, av_qc (.invokevirtual 74) 29 2 0 1), (36, av_q (.iload_n 2)), (37, av_qa (.if_icmp .eq 7) 44), (40, av_q (.sipush 9999)), (43, av_q (.ireturn))]
def cl_25_4 : List (Nat × av_E) := [(44, av_q (.iload_n 3)), (45, av_q (.iconst 1)), (46, av_qa (.if_icmp .ne 18) 64), (49, av_q (.aload_n 0)), (50, av_qf (.getfield 28) 0 5 2), (53, av_q (.iload_n 1))]
def cl_25_5 : List (Nat × av_E) := [(54, av_q (.iaload)), (55, av_q (.aload_n 0)), (56, av_q (.iload_n 1)), (57, av_qc (.invokevirtual 125) 10 1 0 0), (60, av_qa (.invokestatic 106) 1001), (63, av_q (.ireturn))]
def cl_25_6 : List (Nat × av_E) := [(64, av_q (.aload_n 0)), (65, av_q (.iload_n 1)), (66, av_q (.iconst 1)), (67, av_qc (.invokevirtual 115) 6 2 0 0), (70, av_q (.istore 4)), (72, av_q (.iload 4))]
def cl_25_7 : List (Nat × av_E) := [(74, av_q (.iconst (-1))), (75, av_qa (.if_icmp .ne 9) 84), (78, av_q (.sipush 9999)), (81, av_qa (.goto 14) 95), (84, av_q (.aload_n 0)), (85, av_qf (.getfield 28) 0 5 2)]
def cl_25_8 : List (Nat × av_E) := [(88, av_q (.iload_n 1)), (89, av_q (.iaload)), (90, av_q (.iload 4)), (92, av_qa (.invokestatic 106) 1001), (95, av_q (.ireturn))]
def cf_25 : Nat → Option av_E := (av_br 43 (av_br 19 (av_br 9 (av_lq cl_25_0) (av_lq cl_25_1)) (av_br 29 (av_lq cl_25_2) (av_lq cl_25_3))) (av_br 63 (av_br 53 (av_lq cl_25_4) (av_lq cl_25_5)) (av_br 72 (av_lq cl_25_6) (av_br 85 (av_lq cl_25_7) (av_lq cl_25_8)))))
set_option maxRecDepth 100000 in
set_option maxHeartbeats 4000000 in
theorem ck_25 : ∀ (pc : Nat) (x : av_E), cf_25 pc = some x → cd_25.lookup pc = some x := by
  have h : ∀ q ∈ cl_25_0 ++ (cl_25_1 ++ (cl_25_2 ++ (cl_25_3 ++ (cl_25_4 ++ (cl_25_5 ++ (cl_25_6 ++ (cl_25_7 ++ (cl_25_8)))))))), cd_25.lookup q.1 = some q.2 := av_ascQ (cd := cd_25) (by decide +kernel)
  obtain ⟨h0, h⟩ := List.forall_mem_append.mp h
  obtain ⟨h1, h⟩ := List.forall_mem_append.mp h
  obtain ⟨h2, h⟩ := List.forall_mem_append.mp h
  obtain ⟨h3, h⟩ := List.forall_mem_append.mp h
  obtain ⟨h4, h⟩ := List.forall_mem_append.mp h
  obtain ⟨h5, h⟩ := List.forall_mem_append.mp h
  obtain ⟨h6, h⟩ := List.forall_mem_append.mp h
  obtain ⟨h7, h⟩ := List.forall_mem_append.mp h
  have h8 := h
  exact (av_brP (av_brP (av_brP (av_lqP h0) (av_lqP h1)) (av_brP (av_lqP h2) (av_lqP h3))) (av_brP (av_brP (av_lqP h4) (av_lqP h5)) (av_brP (av_lqP h6) (av_brP (av_lqP h7) (av_lqP h8)))))
def cl_26_0 : List (Nat × av_E) := [(0, av_q (.aload_n 0)), (1, av_qf (.getfield 31) 0 6 2), (4, av_q (.iload_n 1)), (5, av_q (.iaload)), (6, av_q (.aload_n 0)), (7, av_qf (.getfield 56) 0 15 0)]
def cl_26_1 : List (Nat × av_E) := [(10, av_qa (.invokestatic 122) 1002), (13, av_q (.iconst 1)), (14, av_q (.isub)), (15, av_q (.ireturn))]
def cf_26 : Nat → Option av_E := (av_br 7 (av_lq cl_26_0) (av_lq cl_26_1))
set_option maxRecDepth 100000 in
set_option maxHeartbeats 4000000 in
theorem ck_26 : ∀ (pc : Nat) (x : av_E), cf_26 pc = some x → cd_26.lookup pc = some x := by
  have h : ∀ q ∈ cl_26_0 ++ (cl_26_1), cd_26.lookup q.1 = some q.2 := av_ascQ (cd := cd_26) (by decide +kernel)
  obtain ⟨h0, h⟩ := List.forall_mem_append.mp h
  have h1 := h
  exact (av_brP (av_lqP h0) (av_lqP h1))
def cl_27_0 : List (Nat × av_E) := [(0, av_q (.aload_n 0)), (1, av_qa (.invokespecial 3) 1000), (4, av_q (.aload_n 0)), (5, av_q (.aload_n 1)), (6, av_q (.iload_n 2)), (7, av_q (.bipush 21))]
def cl_27_1 : List (Nat × av_E) := [(9, av_q (.imul)), (10, av_qc (.invokestatic 9) 222 2 2 10), (13, av_qf (.putfield 15) 1 0 2), (16, av_q (.aload_n 0)), (17, av_q (.iload_n 2)), (18, av_qf (.putfield 21) 1 1 0)]
def cl_27_2 : List (Nat × av_E) := [(21, av_q (.iconst 0)), (22, av_q (.istore_n 3)), (23, av_q (.iconst 1)), (24, av_q (.istore 4)), (26, av_q (.iconst 0)), (27, av_q (.istore 5))]
def cl_27_3 : List (Nat × av_E) := [(29, av_q (.iload 5)), (31, av_q (.aload_n 0)), (32, av_qf (.getfield 15) 1 0 2), (35, av_q (.arraylength)), (36, av_qa (.if_icmp .ge 91) 127), (39, av_q (.iconst 1))]
def cl_27_4 : List (Nat × av_E) := [(40, av_q (.istore 6)), (42, av_q (.iconst 0)), (43, av_q (.istore 7)), (45, av_q (.iload 7)), (47, av_q (.iconst 4)), (48, av_qa (.if_icmp .ge 48) 96)]
def cl_27_5 : List (Nat × av_E) := [(51, av_q (.aload_n 0)), (52, av_qf (.getfield 15) 1 0 2), (55, av_q (.iload 5)), (57, av_q (.bipush 15)), (59, av_q (.iadd)), (60, av_q (.iload 7))]
def cl_27_6 : List (Nat × av_E) := [(62, av_q (.iadd)), (63, av_q (.iaload)), (64, av_q (.istore 8)), (66, av_q (.iload_n 3)), (67, av_q (.iload 8)), (69, av_qa (.ifCond .le 7) 76)]
def cl_27_7 : List (Nat × av_E) := [(72, av_q (.iconst 1)), (73, av_qa (.goto 4) 77), (76, av_q (.iconst 0)), (77, av_q (.iadd)), (78, av_q (.istore_n 3)), (79, av_q (.iload 6))]
def cl_27_8 : List (Nat × av_E) := [(81, av_q (.iload 8)), (83, av_q (.iconst 1)), (84, av_qa (.invokestatic 25) 1001), (87, av_q (.imul)), (88, av_q (.istore 6)), (90, av_q (.iinc 7 1))]
def cl_27_9 : List (Nat × av_E) := [(93, av_qa (.goto (-48)) 45), (96, av_q (.aload_n 0)), (97, av_qf (.getfield 15) 1 0 2), (100, av_q (.iload 5)), (102, av_q (.bipush 20)), (104, av_q (.iadd))]
def cl_27_10 : List (Nat × av_E) := [(105, av_q (.iload 6)), (107, av_q (.iastore)), (108, av_q (.iload 4)), (110, av_q (.iload 6)), (112, av_q (.imul)), (113, av_q (.sipush 1025))]
def cl_27_11 : List (Nat × av_E) := [(116, av_qa (.invokestatic 31) 1002), (119, av_q (.istore 4)), (121, av_q (.iinc 5 21)), (124, av_qa (.goto (-95)) 29), (127, av_q (.aload_n 0)), (128, av_q (.iload_n 3))]
def cl_27_12 : List (Nat × av_E) := [(129, av_qf (.putfield 34) 1 2 0), (132, av_q (.aload_n 0)), (133, av_q (.iload 4)), (135, av_q (.sipush 1024)), (138, av_qa (.if_icmp .gt 8) 146), (141, av_q (.iload 4))]
def cl_27_13 : List (Nat × av_E) := [(143, av_qa (.goto 4) 147), (146, av_q (.iconst (-1))), (147, av_qf (.putfield 37) 1 3 0), (150, av_q (.return_))]
def cf_27 : Nat → Option av_E := (av_br 69 (av_br 27 (av_br 7 (av_lq cl_27_0) (av_br 18 (av_lq cl_27_1) (av_lq cl_27_2))) (av_br 48 (av_br 39 (av_lq cl_27_3) (av_lq cl_27_4)) (av_br 60 (av_lq cl_27_5) (av_lq cl_27_6)))) (av_br 104 (av_br 79 (av_lq cl_27_7) (av_br 90 (av_lq cl_27_8) (av_lq cl_27_9))) (av_br 128 (av_br 113 (av_lq cl_27_10) (av_lq cl_27_11)) (av_br 141 (av_lq cl_27_12) (av_lq cl_27_13)))))
set_option maxRecDepth 100000 in
set_option maxHeartbeats 4000000 in
theorem ck_27 : ∀ (pc : Nat) (x : av_E), cf_27 pc = some x → cd_27.lookup pc = some x := by
  have h : ∀ q ∈ cl_27_0 ++ (cl_27_1 ++ (cl_27_2 ++ (cl_27_3 ++ (cl_27_4 ++ (cl_27_5 ++ (cl_27_6 ++ (cl_27_7 ++ (cl_27_8 ++ (cl_27_9 ++ (cl_27_10 ++ (cl_27_11 ++ (cl_27_12 ++ (cl_27_13))))))))))))), cd_27.lookup q.1 = some q.2 := av_ascQ (cd := cd_27) (by decide +kernel)
  obtain ⟨h0, h⟩ := List.forall_mem_append.mp h
  obtain ⟨h1, h⟩ := List.forall_mem_append.mp h
  obtain ⟨h2, h⟩ := List.forall_mem_append.mp h
  obtain ⟨h3, h⟩ := List.forall_mem_append.mp h
  obtain ⟨h4, h⟩ := List.forall_mem_append.mp h
  obtain ⟨h5, h⟩ := List.forall_mem_append.mp h
  obtain ⟨h6, h⟩ := List.forall_mem_append.mp h
  obtain ⟨h7, h⟩ := List.forall_mem_append.mp h
  obtain ⟨h8, h⟩ := List.forall_mem_append.mp h
  obtain ⟨h9, h⟩ := List.forall_mem_append.mp h
  obtain ⟨h10, h⟩ := List.forall_mem_append.mp h
  obtain ⟨h11, h⟩ := List.forall_mem_append.mp h
  obtain ⟨h12, h⟩ := List.forall_mem_append.mp h
  have h13 := h
  exact (av_brP (av_brP (av_brP (av_lqP h0) (av_brP (av_lqP h1) (av_lqP h2))) (av_brP (av_brP (av_lqP h3) (av_lqP h4)) (av_brP (av_lqP h5) (av_lqP h6)))) (av_brP (av_brP (av_lqP h7) (av_brP (av_lqP h8) (av_lqP h9))) (av_brP (av_brP (av_lqP h10) (av_lqP h11)) (av_brP (av_lqP h12) (av_lqP h13)))))
def cl_28_0 : List (Nat × av_E) := [(0, av_q (.iload_n 1)), (1, av_qa (.ifCond .lt 15) 16), (4, av_q (.iload_n 1)), (5, av_q (.aload_n 0)), (6, av_qf (.getfield 21) 1 1 0), (9, av_qa (.if_icmp .ge 7) 16)]
def cl_28_1 : List (Nat × av_E) := [(12, av_q (.iconst 1)), (13, av_qa (.goto 4) 17), (16, av_q (.iconst 0)), (17, av_qa (.ireturn) 1)]
def cf_28 : Nat → Option av_E := (av_br 9 (av_lq cl_28_0) (av_lq cl_28_1))
set_option maxRecDepth 100000 in
set_option maxHeartbeats 4000000 in
theorem ck_28 : ∀ (pc : Nat) (x : av_E), cf_28 pc = some x → cd_28.lookup pc = some x := by
  have h : ∀ q ∈ cl_28_0 ++ (cl_28_1), cd_28.lookup q.1 = some q.2 := av_ascQ (cd := cd_28) (by decide +kernel)
  obtain ⟨h0, h⟩ := List.forall_mem_append.mp h
  have h1 := h
  exact (av_brP (av_lqP h0) (av_lqP h1))
def cl_29_0 : List (Nat × av_E) := [(0, av_q (.aload_n 0)), (1, av_q (.iload_n 1)), (2, av_qc (.invokevirtual 40) 28 1 0 1), (5, av_qa (.ifCond .eq 13) 18), (8, av_q (.iload_n 2)), (9, av_qa (.ifCond .lt 9) 18)]
def cl_29_1 : List (Nat × av_E) := [(12, av_q (.iload_n 2)), (13, av_q (.bipush 21)), (15, av_qa (.if_icmp .lt 5) 20), (18, av_q (.iconst (-1))), (19, av_q (.ireturn)), (20, av_q (.aload_n 0))]
def cl_29_2 : List (Nat × av_E) := [(21, av_qf (.getfield 15) 1 0 2), (24, av_q (.iload_n 1)), (25, av_q (.bipush 21)), (27, av_q (.imul)), (28, av_q (.iload_n 2)), (29, av_q (.iadd))]
def cl_29_3 : List (Nat × av_E) := [(30, av_q (.iaload)), (31, av_q (.ireturn))]
def cf_29 : Nat → Option av_E := (av_br 20 (av_br 9 (av_lq cl_29_0) (av_lq cl_29_1)) (av_br 29 (av_lq cl_29_2) (av_lq cl_29_3)))
set_option maxRecDepth 100000 in
set_option maxHeartbeats 4000000 in
theorem ck_29 : ∀ (pc : Nat) (x : av_E), cf_29 pc = some x → cd_29.lookup pc = some x := by
  have h : ∀ q ∈ cl_29_0 ++ (cl_29_1 ++ (cl_29_2 ++ (cl_29_3))), cd_29.lookup q.1 = some q.2 := av_ascQ (cd := cd_29) (by decide +kernel)
  obtain ⟨h0, h⟩ := List.forall_mem_append.mp h
  obtain ⟨h1, h⟩ := List.forall_mem_append.mp h
  obtain ⟨h2, h⟩ := List.forall_mem_append.mp h
  have h3 := h
  exact (av_brP (av_brP (av_lqP h0) (av_lqP h1)) (av_brP (av_lqP h2) (av_lqP h3)))
def cl_30_0 : List (Nat × av_E) := [(0, av_q (.iconst 0)), (1, av_q (.istore_n 2)), (2, av_q (.iload_n 2)), (3, av_q (.iconst 3)), (4, av_qa (.if_icmp .ge 24) 28), (7, av_q (.aload_n 0))]
def cl_30_1 : List (Nat × av_E) := [(8, av_q (.iload_n 1)), (9, av_q (.bipush 10)), (11, av_q (.iload_n 2)), (12, av_q (.iadd)), (13, av_qc (.invokevirtual 44) 29 2 0 1), (16, av_q (.iconst (-1)))]
def cl_30_2 : List (Nat × av_E) := [(17, av_qa (.if_icmp .eq 5) 22), (20, av_q (.iconst 0)), (21, av_qa (.ireturn) 1), (22, av_q (.iinc 2 1)), (25, av_qa (.goto (-23)) 2), (28, av_q (.iconst 1))]
def cl_30_3 : List (Nat × av_E) := [(29, av_qa (.ireturn) 1)]
def cf_30 : Nat → Option av_E := (av_br 16 (av_br 7 (av_lq cl_30_0) (av_lq cl_30_1)) (av_br 28 (av_lq cl_30_2) (av_lq cl_30_3)))
set_option maxRecDepth 100000 in
set_option maxHeartbeats 4000000 in
theorem ck_30 : ∀ (pc : Nat) (x : av_E), cf_30 pc = some x → cd_30.lookup pc = some x := by
  have h : ∀ q ∈ cl_30_0 ++ (cl_30_1 ++ (cl_30_2 ++ (cl_30_3))), cd_30.lookup q.1 = some q.2 := av_ascQ (cd := cd_30) (by decide +kernel)
  obtain ⟨h0, h⟩ := List.forall_mem_append.mp h
  obtain ⟨h1, h⟩ := List.forall_mem_append.mp h
  obtain ⟨h2, h⟩ := List.forall_mem_append.mp h
  have h3 := h
  exact (av_brP (av_brP (av_lqP h0) (av_lqP h1)) (av_brP (av_lqP h2) (av_lqP h3)))
def cl_31_0 : List (Nat × av_E) := [(0, av_q (.iload_n 1)), (1, av_q (.istore_n 3)), (2, av_q (.iconst 0)), (3, av_q (.istore 4)), (5, av_q (.iload 4)), (7, av_q (.bipush 12))]
def cl_31_1 : List (Nat × av_E) := [(9, av_qa (.if_icmp .ge 58) 67), (12, av_q (.aload_n 0)), (13, av_q (.iload_n 3)), (14, av_qc (.invokevirtual 40) 28 1 0 1), (17, av_qa (.ifCond .eq 50) 67), (20, av_q (.aload_n 0))]
def cl_31_2 : List (Nat × av_E) := [(21, av_q (.iload_n 3)), (22, av_q (.bipush 10)), (24, av_q (.iload_n 2)), (25, av_q (.iadd)), (26, av_qc (.invokevirtual 44) 29 2 0 1), (29, av_q (.istore 5))]
def cl_31_3 : List (Nat × av_E) := [(31, av_q (.iload 5)), (33, av_q (.iconst (-1))), (34, av_qa (.if_icmp .eq 6) 40), (37, av_q (.iload 5)), (39, av_q (.ireturn)), (40, av_q (.aload_n 0))]
def cl_31_4 : List (Nat × av_E) := [(41, av_q (.iload_n 3)), (42, av_q (.iconst 0)), (43, av_qc (.invokevirtual 44) 29 2 0 1), (46, av_q (.iconst 3)), (47, av_qa (.if_icmp .ne 12) 59), (50, av_q (.aload_n 0))]
def cl_31_5 : List (Nat × av_E) := [(51, av_q (.iload_n 3)), (52, av_q (.iconst 3)), (53, av_qc (.invokevirtual 44) 29 2 0 1), (56, av_qa (.goto 4) 60), (59, av_q (.iconst (-1))), (60, av_q (.istore_n 3))]
def cl_31_6 : List (Nat × av_E) := [(61, av_q (.iinc 4 1)), (64, av_qa (.goto (-59)) 5), (67, av_q (.iconst (-1))), (68, av_q (.ireturn))]
def cf_31 : Nat → Option av_E := (av_br 29 (av_br 7 (av_lq cl_31_0) (av_br 20 (av_lq cl_31_1) (av_lq cl_31_2))) (av_br 50 (av_br 40 (av_lq cl_31_3) (av_lq cl_31_4)) (av_br 60 (av_lq cl_31_5) (av_lq cl_31_6))))
set_option maxRecDepth 100000 in
set_option maxHeartbeats 4000000 in
theorem ck_31 : ∀ (pc : Nat) (x : av_E), cf_31 pc = some x → cd_31.lookup pc = some x := by
  have h : ∀ q ∈ cl_31_0 ++ (cl_31_1 ++ (cl_31_2 ++ (cl_31_3 ++ (cl_31_4 ++ (cl_31_5 ++ (cl_31_6)))))), cd_31.lookup q.1 = some q.2 := av_ascQ (cd := cd_31) (by decide +kernel)
  obtain ⟨h0, h⟩ := List.forall_mem_append.mp h
  obtain ⟨h1, h⟩ := List.forall_mem_append.mp h
  obtain ⟨h2, h⟩ := List.forall_mem_append.mp h
  obtain ⟨h3, h⟩ := List.forall_mem_append.mp h
  obtain ⟨h4, h⟩ := List.forall_mem_append.mp h
  obtain ⟨h5, h⟩ := List.forall_mem_append.mp h
  have h6 := h
  exact (av_brP (av_brP (av_lqP h0) (av_brP (av_lqP h1) (av_lqP h2))) (av_brP (av_brP (av_lqP h3) (av_lqP h4)) (av_brP (av_lqP h5) (av_lqP h6))))
def cl_32_0 : List (Nat × av_E) := [(0, av_q (.aload_n 0)), (1, av_qf (.getfield 15) 1 0 2), (4, av_qa (.invokevirtual 47) 1004), (7, av_q (.checkcast 48)), (10, av_q (.astore_n 2)), (11, av_q (.aload_n 0))]
def cl_32_1 : List (Nat × av_E) := [(12, av_q (.iload_n 1)), (13, av_qc (.invokevirtual 40) 28 1 0 1), (16, av_qa (.ifCond .eq 25) 41), (19, av_q (.aload_n 2)), (20, av_q (.iload_n 1)), (21, av_q (.bipush 21))]
def cl_32_2 : List (Nat × av_E) := [(23, av_q (.imul)), (24, av_q (.bipush 15)), (26, av_q (.iadd)), (27, av_q (.iconst 3)), (28, av_q (.iadd)), (29, av_q (.iconst 0))]
def cl_32_3 : List (Nat × av_E) := [(30, av_q (.iastore)), (31, av_q (.aload_n 2)), (32, av_q (.iload_n 1)), (33, av_q (.bipush 21)), (35, av_q (.imul)), (36, av_q (.bipush 19))]
def cl_32_4 : List (Nat × av_E) := [(38, av_q (.iadd)), (39, av_q (.iconst 1)), (40, av_q (.iastore)), (41, av_qa (.new 16) 1), (44, av_q (.dup)), (45, av_q (.aload_n 2))]
def cl_32_5 : List (Nat × av_E) := [(46, av_q (.aload_n 0)), (47, av_qf (.getfield 21) 1 1 0), (50, av_qc (.invokespecial 52) 27 2 1 1), (53, av_q (.areturn))]
def cf_32 : Nat → Option av_E := (av_br 29 (av_br 11 (av_lq cl_32_0) (av_br 21 (av_lq cl_32_1) (av_lq cl_32_2))) (av_br 36 (av_lq cl_32_3) (av_br 45 (av_lq cl_32_4) (av_lq cl_32_5))))
set_option maxRecDepth 100000 in
set_option maxHeartbeats 4000000 in
theorem ck_32 : ∀ (pc : Nat) (x : av_E), cf_32 pc = some x → cd_32.lookup pc = some x := by
  have h : ∀ q ∈ cl_32_0 ++ (cl_32_1 ++ (cl_32_2 ++ (cl_32_3 ++ (cl_32_4 ++ (cl_32_5))))), cd_32.lookup q.1 = some q.2 := av_ascQ (cd := cd_32) (by decide +kernel)
  obtain ⟨h0, h⟩ := List.forall_mem_append.mp h
  obtain ⟨h1, h⟩ := List.forall_mem_append.mp h
  obtain ⟨h2, h⟩ := List.forall_mem_append.mp h
  obtain ⟨h3, h⟩ := List.forall_mem_append.mp h
  obtain ⟨h4, h⟩ := List.forall_mem_append.mp h
  have h5 := h
  exact (av_brP (av_brP (av_lqP h0) (av_brP (av_lqP h1) (av_lqP h2))) (av_brP (av_lqP h3) (av_brP (av_lqP h4) (av_lqP h5))))
def cl_33_0 : List (Nat × av_E) := [(0, av_q (.aload_n 0)), (1, av_qf (.getfield 15) 1 0 2), (4, av_qa (.invokevirtual 47) 1004), (7, av_q (.checkcast 48)), (10, av_q (.astore_n 2)), (11, av_q (.aload_n 0))]
def cl_33_1 : List (Nat × av_E) := [(12, av_q (.iload_n 1)), (13, av_qc (.invokevirtual 40) 28 1 0 1), (16, av_qa (.ifCond .eq 49) 65), (19, av_q (.iload_n 1)), (20, av_q (.bipush 21)), (22, av_q (.imul))]
def cl_33_2 : List (Nat × av_E) := [(23, av_q (.istore_n 3)), (24, av_q (.aload_n 2)), (25, av_q (.iload_n 3)), (26, av_q (.iconst 4)), (27, av_q (.iadd)), (28, av_q (.iconst 1))]
def cl_33_3 : List (Nat × av_E) := [(29, av_q (.iastore)), (30, av_q (.aload_n 2)), (31, av_q (.iload_n 3)), (32, av_q (.bipush 7)), (34, av_q (.iadd)), (35, av_q (.iconst 1))]
def cl_33_4 : List (Nat × av_E) := [(36, av_q (.iadd)), (37, av_q (.iconst 0)), (38, av_q (.iastore)), (39, av_q (.aload_n 2)), (40, av_q (.iload_n 3)), (41, av_q (.bipush 7))]
def cl_33_5 : List (Nat × av_E) := [(43, av_q (.iadd)), (44, av_q (.iconst 2)), (45, av_q (.iadd)), (46, av_q (.iconst 0)), (47, av_q (.iastore)), (48, av_q (.aload_n 2))]
def cl_33_6 : List (Nat × av_E) := [(49, av_q (.iload_n 3)), (50, av_q (.bipush 15)), (52, av_q (.iadd)), (53, av_q (.iconst 1)), (54, av_q (.iadd)), (55, av_q (.iload_n 3))]
def cl_33_7 : List (Nat × av_E) := [(56, av_q (.bipush 15)), (58, av_q (.iadd)), (59, av_q (.iconst 4)), (60, av_q (.iadd)), (61, av_q (.iconst 0)), (62, av_qc (.invokestatic 55) 221 4 2 10)]
def cl_33_8 : List (Nat × av_E) := [(65, av_qa (.new 16) 1), (68, av_q (.dup)), (69, av_q (.aload_n 2)), (70, av_q (.aload_n 0)), (71, av_qf (.getfield 21) 1 1 0), (74, av_qc (.invokespecial 52) 27 2 1 1)]
def cl_33_9 : List (Nat × av_E) := [(77, av_q (.areturn))]
def cf_33 : Nat → Option av_E := (av_br 41 (av_br 22 (av_br 11 (av_lq cl_33_0) (av_lq cl_33_1)) (av_br 28 (av_lq cl_33_2) (av_br 35 (av_lq cl_33_3) (av_lq cl_33_4)))) (av_br 55 (av_br 48 (av_lq cl_33_5) (av_lq cl_33_6)) (av_br 62 (av_lq cl_33_7) (av_br 74 (av_lq cl_33_8) (av_lq cl_33_9)))))
set_option maxRecDepth 100000 in
set_option maxHeartbeats 4000000 in
theorem ck_33 : ∀ (pc : Nat) (x : av_E), cf_33 pc = some x → cd_33.lookup pc = some x := by
  have h : ∀ q ∈ cl_33_0 ++ (cl_33_1 ++ (cl_33_2 ++ (cl_33_3 ++ (cl_33_4 ++ (cl_33_5 ++ (cl_33_6 ++ (cl_33_7 ++ (cl_33_8 ++ (cl_33_9))))))))), cd_33.lookup q.1 = some q.2 := av_ascQ (cd := cd_33) (by decide +kernel)
  obtain ⟨h0, h⟩ := List.forall_mem_append.mp h
  obtain ⟨h1, h⟩ := List.forall_mem_append.mp h
  obtain ⟨h2, h⟩ := List.forall_mem_append.mp h
  obtain ⟨h3, h⟩ := List.forall_mem_append.mp h
  obtain ⟨h4, h⟩ := List.forall_mem_append.mp h
  obtain ⟨h5, h⟩ := List.forall_mem_append.mp h
  obtain ⟨h6, h⟩ := List.forall_mem_append.mp h
  obtain ⟨h7, h⟩ := List.forall_mem_append.mp h
  obtain ⟨h8, h⟩ := List.forall_mem_append.mp h
  have h9 := h
  exact (av_brP (av_brP (av_brP (av_lqP h0) (av_lqP h1)) (av_brP (av_lqP h2) (av_brP (av_lqP h3) (av_lqP h4)))) (av_brP (av_brP (av_lqP h5) (av_lqP h6)) (av_brP (av_lqP h7) (av_brP (av_lqP h8) (av_lqP h9)))))
def cl_35_0 : List (Nat × av_E) := [(0, av_q (.aload_n 0)), (1, av_q (.iload_n 2)), (2, av_qf (.putfield 15) 2 2 0), (5, av_q (.aload_n 1)), (6, av_qf (.getfield 23) 1 1 0), (9, av_q (.bipush 12))]
def cl_35_1 : List (Nat × av_E) := [(11, av_qa (.invokestatic 28) 1002), (14, av_q (.istore_n 3)), (15, av_q (.iload_n 3)), (16, av_q (.istore 4)), (18, av_q (.aload_n 1)), (19, av_qf (.getfield 34) 1 0 2)]
def cl_35_2 : List (Nat × av_E) := [(22, av_q (.iconst 0)), (23, av_q (.aload_n 0)), (24, av_qf (.getfield 9) 2 1 2), (27, av_q (.iconst 0)), (28, av_q (.iload_n 3)), (29, av_q (.bipush 21))]
def cl_35_3 : List (Nat × av_E) := [(31, av_q (.imul)), (32, av_qa (.invokestatic 35) 1003), (35, av_q (.iload_n 3)), (36, av_q (.istore 5)), (38, av_q (.iload 5)), (40, av_q (.bipush 12))]
def cl_35_4 : List (Nat × av_E) := [(42, av_qa (.if_icmp .gt 48) 90), (45, av_q (.aload_n 0)), (46, av_qf (.getfield 19) 2 0 2), (49, av_qc (.invokevirtual 41) 84 0 0 6), (52, av_qa (.ifCond .eq 38) 90), (55, av_q (.iload 5))]
def cl_35_5 : List (Nat × av_E) := [(57, av_q (.bipush 12)), (59, av_qa (.if_icmp .ne 13) 72), (62, av_q (.aload_n 0)), (63, av_qf (.getfield 19) 2 0 2), (66, av_qc (.invokevirtual 47) 85 0 0 6), (69, av_qa (.goto 15) 84)]
def cl_35_6 : List (Nat × av_E) := [(72, av_q (.aload_n 0)), (73, av_q (.iload 5)), (75, av_qc (.invokevirtual 50) 36 1 0 2), (78, av_q (.iload 5)), (80, av_q (.iconst 1)), (81, av_q (.iadd))]
def cl_35_7 : List (Nat × av_E) := [(82, av_q (.istore 4)), (84, av_q (.iinc 5 1)), (87, av_qa (.goto (-49)) 38), (90, av_q (.iload 4)), (92, av_q (.iload_n 3)), (93, av_qa (.if_icmp .ne 10) 103)]
def cl_35_8 : List (Nat × av_E) := [(96, av_q (.aload_n 0)), (97, av_qf (.getfield 19) 2 0 2), (100, av_qc (.invokevirtual 47) 85 0 0 6), (103, av_q (.aload_n 0)), (104, av_qf (.getfield 19) 2 0 2), (107, av_qf (.getfield 54) 6 6 0)]
def cl_35_9 : List (Nat × av_E) := [(110, av_q (.iconst (-1))), (111, av_qa (.if_icmp .ne 19) 130), (114, av_qa (.new 24) 1), (117, av_q (.dup)), (118, av_q (.aload_n 0)), (119, av_qf (.getfield 9) 2 1 2)]
def cl_35_10 : List (Nat × av_E) := [(122, av_q (.iload 4)), (124, av_qc (.invokespecial 57) 27 2 1 1), (127, av_qa (.goto 4) 131), (130, av_q (.aconst_null)), (131, av_q (.areturn))]
def cf_35 : Nat → Option av_E := (av_br 55 (av_br 19 (av_br 9 (av_lq cl_35_0) (av_lq cl_35_1)) (av_br 29 (av_lq cl_35_2) (av_br 40 (av_lq cl_35_3) (av_lq cl_35_4)))) (av_br 93 (av_br 69 (av_lq cl_35_5) (av_br 81 (av_lq cl_35_6) (av_lq cl_35_7))) (av_br 107 (av_lq cl_35_8) (av_br 119 (av_lq cl_35_9) (av_lq cl_35_10)))))
set_option maxRecDepth 100000 in
set_option maxHeartbeats 4000000 in
theorem ck_35 : ∀ (pc : Nat) (x : av_E), cf_35 pc = some x → cd_35.lookup pc = some x := by
  have h : ∀ q ∈ cl_35_0 ++ (cl_35_1 ++ (cl_35_2 ++ (cl_35_3 ++ (cl_35_4 ++ (cl_35_5 ++ (cl_35_6 ++ (cl_35_7 ++ (cl_35_8 ++ (cl_35_9 ++ (cl_35_10)))))))))), cd_35.lookup q.1 = some q.2 := av_ascQ (cd := cd_35) (by decide +kernel)
  obtain ⟨h0, h⟩ := List.forall_mem_append.mp h
  obtain ⟨h1, h⟩ := List.forall_mem_append.mp h
  obtain ⟨h2, h⟩ := List.forall_mem_append.mp h
  obtain ⟨h3, h⟩ := List.forall_mem_append.mp h
  obtain ⟨h4, h⟩ := List.forall_mem_append.mp h
  obtain ⟨h5, h⟩ := List.forall_mem_append.mp h
  obtain ⟨h6, h⟩ := List.forall_mem_append.mp h
  obtain ⟨h7, h⟩ := List.forall_mem_append.mp h
  obtain ⟨h8, h⟩ := List.forall_mem_append.mp h
  obtain ⟨h9, h⟩ := List.forall_mem_append.mp h
  have h10 := h
  exact (av_brP (av_brP (av_brP (av_lqP h0) (av_lqP h1)) (av_brP (av_lqP h2) (av_brP (av_lqP h3) (av_lqP h4)))) (av_brP (av_brP (av_lqP h5) (av_brP (av_lqP h6) (av_lqP h7))) (av_brP (av_lqP h8) (av_brP (av_lqP h9) (av_lqP h10)))))
def cl_36_0 : List (Nat × av_E) := [(0, av_q (.iload_n 1)), (1, av_q (.bipush 21)), (3, av_q (.imul)), (4, av_q (.istore_n 2)), (5, av_q (.aload_n 0)), (6, av_qf (.getfield 9) 2 1 2)]
def cl_36_1 : List (Nat × av_E) := [(9, av_q (.iload_n 2)), (10, av_q (.iload_n 2)), (11, av_q (.bipush 21)), (13, av_q (.iadd)), (14, av_q (.iconst (-1))), (15, av_qc (.invokestatic 60) 221 4 2 10)]
def cl_36_2 : List (Nat × av_E) := [(18, av_q (.aload_n 0)), (19, av_qf (.getfield 9) 2 1 2), (22, av_q (.iload_n 2)), (23, av_q (.bipush 7)), (25, av_q (.iadd)), (26, av_q (.iload_n 2))]
def cl_36_3 : List (Nat × av_E) := [(27, av_q (.bipush 7)), (29, av_q (.iadd)), (30, av_q (.iconst 3)), (31, av_q (.iadd)), (32, av_q (.iconst 0)), (33, av_qc (.invokestatic 60) 221 4 2 10)]
def cl_36_4 : List (Nat × av_E) := [(36, av_q (.aload_n 0)), (37, av_qf (.getfield 9) 2 1 2), (40, av_q (.iload_n 2)), (41, av_q (.bipush 15)), (43, av_q (.iadd)), (44, av_q (.iload_n 2))]
def cl_36_5 : List (Nat × av_E) := [(45, av_q (.bipush 21)), (47, av_q (.iadd)), (48, av_q (.iconst 0)), (49, av_qc (.invokestatic 60) 221 4 2 10), (52, av_q (.aload_n 0)), (53, av_qf (.getfield 19) 2 0 2)]
def cl_36_6 : List (Nat × av_E) := [(56, av_qs (.ldc 66) 0), (58, av_qc (.invokevirtual 68) 87 1 0 6), (61, av_q (.istore_n 3)), (62, av_q (.iload_n 3)), (63, av_q (.iconst 2)), (64, av_qa (.if_icmp .gt 7) 71)]
def cl_36_7 : List (Nat × av_E) := [(67, av_q (.iload_n 3)), (68, av_qa (.goto 6) 74), (71, av_q (.iload_n 3)), (72, av_q (.iconst 1)), (73, av_q (.iadd)), (74, av_q (.istore 4))]
def cl_36_8 : List (Nat × av_E) := [(76, av_q (.aload_n 0)), (77, av_qf (.getfield 9) 2 1 2), (80, av_q (.iload_n 2)), (81, av_q (.iconst 0)), (82, av_q (.iadd)), (83, av_q (.iload 4))]
def cl_36_9 : List (Nat × av_E) := [(85, av_q (.iastore)), (86, av_q (.aload_n 0)), (87, av_qf (.getfield 9) 2 1 2), (90, av_q (.iload_n 2)), (91, av_q (.iconst 1)), (92, av_q (.iadd))]
def cl_36_10 : List (Nat × av_E) := [(93, av_q (.aload_n 0)), (94, av_qf (.getfield 19) 2 0 2), (97, av_qs (.ldc 72) 1), (99, av_qc (.invokevirtual 68) 87 1 0 6), (102, av_q (.iastore)), (103, av_q (.iload 4))]
def cl_36_11 : List (Nat × av_E) := [(105, av_qa (.ifCond .eq 9) 114), (108, av_q (.iload 4)), (110, av_q (.iconst 1)), (111, av_qa (.if_icmp .ne 11) 122), (114, av_q (.aload_n 0)), (115, av_q (.iload_n 2))]
def cl_36_12 : List (Nat × av_E) := [(116, av_qc (.invokevirtual 74) 37 1 0 2), (119, av_qa (.goto 10) 129), (122, av_q (.aload_n 0)), (123, av_q (.iload_n 1)), (124, av_q (.iload 4)), (126, av_qc (.invokevirtual 77) 38 2 0 2)]
def cl_36_13 : List (Nat × av_E) := [(129, av_q (.iload 4)), (131, av_qa (.ifCond .ne 8) 139), (134, av_q (.aload_n 0)), (135, av_q (.iload_n 2)), (136, av_qc (.invokevirtual 81) 40 1 0 2), (139, av_q (.iload 4))]
def cl_36_14 : List (Nat × av_E) := [(141, av_q (.iconst 2)), (142, av_qa (.if_icmp .ne 20) 162), (145, av_q (.aload_n 0)), (146, av_qf (.getfield 19) 2 0 2), (149, av_qs (.ldc 84) 5), (151, av_qc (.invokevirtual 86) 88 1 0 6)]
def cl_36_15 : List (Nat × av_E) := [(154, av_qa (.ifCond .eq 8) 162), (157, av_q (.aload_n 0)), (158, av_q (.iload_n 2)), (159, av_qc (.invokevirtual 90) 41 1 0 2), (162, av_q (.aload_n 0)), (163, av_q (.iload_n 2))]
def cl_36_16 : List (Nat × av_E) := [(164, av_qc (.invokevirtual 93) 43 1 0 2), (167, av_q (.aload_n 0)), (168, av_qf (.getfield 19) 2 0 2), (171, av_qc (.invokevirtual 96) 90 0 0 6), (174, av_q (.return_))]
def cf_36 : Nat → Option av_E := (av_br 74 (av_br 33 (av_br 15 (av_br 6 (av_lq cl_36_0) (av_lq cl_36_1)) (av_br 26 (av_lq cl_36_2) (av_lq cl_36_3))) (av_br 53 (av_br 44 (av_lq cl_36_4) (av_lq cl_36_5)) (av_br 64 (av_lq cl_36_6) (av_lq cl_36_7)))) (av_br 115 (av_br 92 (av_br 83 (av_lq cl_36_8) (av_lq cl_36_9)) (av_br 103 (av_lq cl_36_10) (av_lq cl_36_11))) (av_br 139 (av_br 126 (av_lq cl_36_12) (av_lq cl_36_13)) (av_br 151 (av_lq cl_36_14) (av_br 163 (av_lq cl_36_15) (av_lq cl_36_16))))))
set_option maxRecDepth 100000 in
set_option maxHeartbeats 4000000 in
theorem ck_36 : ∀ (pc : Nat) (x : av_E), cf_36 pc = some x → cd_36.lookup pc = some x := by
  have h : ∀ q ∈ cl_36_0 ++ (cl_36_1 ++ (cl_36_2 ++ (cl_36_3 ++ (cl_36_4 ++ (cl_36_5 ++ (cl_36_6 ++ (cl_36_7 ++ (cl_36_8 ++ (cl_36_9 ++ (cl_36_10 ++ (cl_36_11 ++ (cl_36_12 ++ (cl_36_13 ++ (cl_36_14 ++ (cl_36_15 ++ (cl_36_16)))))))))))))))), cd_36.lookup q.1 = some q.2 := av_ascQ (cd := cd_36) (by decide +kernel)
  obtain ⟨h0, h⟩ := List.forall_mem_append.mp h
  obtain ⟨h1, h⟩ := List.forall_mem_append.mp h
  obtain ⟨h2, h⟩ := List.forall_mem_append.mp h
  obtain ⟨h3, h⟩ := List.forall_mem_append.mp h
  obtain ⟨h4, h⟩ := List.forall_mem_append.mp h
  obtain ⟨h5, h⟩ := List.forall_mem_append.mp h
  obtain ⟨h6, h⟩ := List.forall_mem_append.mp h
  obtain ⟨h7, h⟩ := List.forall_mem_append.mp h
  obtain ⟨h8, h⟩ := List.forall_mem_append.mp h
  obtain ⟨h9, h⟩ := List.forall_mem_append.mp h
  obtain ⟨h10, h⟩ := List.forall_mem_append.mp h
  obtain ⟨h11, h⟩ := List.forall_mem_append.mp h
  obtain ⟨h12, h⟩ := List.forall_mem_append.mp h
  obtain ⟨h13, h⟩ := List.forall_mem_append.mp h
  obtain ⟨h14, h⟩ := List.forall_mem_append.mp h
  obtain ⟨h15, h⟩ := List.forall_mem_append.mp h
  have h16 := h
  exact (av_brP (av_brP (av_brP (av_brP (av_lqP h0) (av_lqP h1)) (av_brP (av_lqP h2) (av_lqP h3))) (av_brP (av_brP (av_lqP h4) (av_lqP h5)) (av_brP (av_lqP h6) (av_lqP h7)))) (av_brP (av_brP (av_brP (av_lqP h8) (av_lqP h9)) (av_brP (av_lqP h10) (av_lqP h11))) (av_brP (av_brP (av_lqP h12) (av_lqP h13)) (av_brP (av_lqP h14) (av_brP (av_lqP h15) (av_lqP h16))))))
def cl_37_0 : List (Nat × av_E) := [(0, av_q (.aload_n 0)), (1, av_qf (.getfield 19) 2 0 2), (4, av_qs (.ldc 72) 1), (6, av_qc (.invokevirtual 99) 86 1 0 6), (9, av_q (.aload_n 0)), (10, av_qf (.getfield 9) 2 1 2)]
def cl_37_1 : List (Nat × av_E) := [(13, av_q (.iload_n 1)), (14, av_q (.iconst 1)), (15, av_q (.iadd)), (16, av_q (.iaload)), (17, av_qa (.if_icmp .ne 10) 27), (20, av_q (.aload_n 0))]
def cl_37_2 : List (Nat × av_E) := [(21, av_qf (.getfield 19) 2 0 2), (24, av_qc (.invokevirtual 47) 85 0 0 6), (27, av_q (.aload_n 0)), (28, av_qf (.getfield 9) 2 1 2), (31, av_q (.iload_n 1)), (32, av_q (.iconst 2))]
def cl_37_3 : List (Nat × av_E) := [(33, av_q (.iadd)), (34, av_q (.aload_n 0)), (35, av_qf (.getfield 19) 2 0 2), (38, av_qs (.ldc 72) 1), (40, av_qc (.invokevirtual 68) 87 1 0 6), (43, av_q (.iastore))]
def cl_37_4 : List (Nat × av_E) := [(44, av_q (.return_))]
def cf_37 : Nat → Option av_E := (av_br 20 (av_br 10 (av_lq cl_37_0) (av_lq cl_37_1)) (av_br 32 (av_lq cl_37_2) (av_br 43 (av_lq cl_37_3) (av_lq cl_37_4))))
set_option maxRecDepth 100000 in
set_option maxHeartbeats 4000000 in
theorem ck_37 : ∀ (pc : Nat) (x : av_E), cf_37 pc = some x → cd_37.lookup pc = some x := by
  have h : ∀ q ∈ cl_37_0 ++ (cl_37_1 ++ (cl_37_2 ++ (cl_37_3 ++ (cl_37_4)))), cd_37.lookup q.1 = some q.2 := av_ascQ (cd := cd_37) (by decide +kernel)
  obtain ⟨h0, h⟩ := List.forall_mem_append.mp h
  obtain ⟨h1, h⟩ := List.forall_mem_append.mp h
  obtain ⟨h2, h⟩ := List.forall_mem_append.mp h
  obtain ⟨h3, h⟩ := List.forall_mem_append.mp h
  have h4 := h
  exact (av_brP (av_brP (av_lqP h0) (av_lqP h1)) (av_brP (av_lqP h2) (av_brP (av_lqP h3) (av_lqP h4))))
def cl_38_0 : List (Nat × av_E) := [(0, av_q (.aload_n 0)), (1, av_qf (.getfield 19) 2 0 2), (4, av_qc (.invokevirtual 102) 91 0 0 6), (7, av_q (.istore_n 3)), (8, av_q (.iload_n 3)), (9, av_qa (.ifCond .lt 31) 40)]
def cl_38_1 : List (Nat × av_E) := [(12, av_q (.iload_n 3)), (13, av_q (.iload_n 1)), (14, av_qa (.if_icmp .ge 26) 40), (17, av_q (.aload_n 0)), (18, av_q (.iload_n 2)), (19, av_q (.aload_n 0))]
def cl_38_2 : List (Nat × av_E) := [(20, av_qf (.getfield 9) 2 1 2), (23, av_q (.iload_n 1)), (24, av_q (.bipush 21)), (26, av_q (.imul)), (27, av_q (.iconst 1)), (28, av_q (.iadd))]
def cl_38_3 : List (Nat × av_E) := [(29, av_q (.iaload)), (30, av_q (.iload_n 3)), (31, av_q (.bipush 21)), (33, av_q (.imul)), (34, av_qc (.invokevirtual 106) 39 3 0 2), (37, av_qa (.ifCond .ne 11) 48)]
def cl_38_4 : List (Nat × av_E) := [(40, av_q (.aload_n 0)), (41, av_qf (.getfield 19) 2 0 2), (44, av_qc (.invokevirtual 47) 85 0 0 6), (47, av_q (.return_)), (48, av_q (.aload_n 0)), (49, av_qf (.getfield 9) 2 1 2)]
def cl_38_5 : List (Nat × av_E) := [(52, av_q (.iload_n 1)), (53, av_q (.bipush 21)), (55, av_q (.imul)), (56, av_q (.iconst 3)), (57, av_q (.iadd)), (58, av_q (.iload_n 3))]
def cl_38_6 : List (Nat × av_E) := [(59, av_q (.iastore)), (60, av_q (.aload_n 0)), (61, av_qf (.getfield 19) 2 0 2), (64, av_qc (.invokevirtual 110) 82 0 0 6), (67, av_q (.return_))]
def cf_38 : Nat → Option av_E := (av_br 28 (av_br 9 (av_lq cl_38_0) (av_br 19 (av_lq cl_38_1) (av_lq cl_38_2))) (av_br 49 (av_br 37 (av_lq cl_38_3) (av_lq cl_38_4)) (av_br 58 (av_lq cl_38_5) (av_lq cl_38_6))))
set_option maxRecDepth 100000 in
set_option maxHeartbeats 4000000 in
theorem ck_38 : ∀ (pc : Nat) (x : av_E), cf_38 pc = some x → cd_38.lookup pc = some x := by
  have h : ∀ q ∈ cl_38_0 ++ (cl_38_1 ++ (cl_38_2 ++ (cl_38_3 ++ (cl_38_4 ++ (cl_38_5 ++ (cl_38_6)))))), cd_38.lookup q.1 = some q.2 := av_ascQ (cd := cd_38) (by decide +kernel)
  obtain ⟨h0, h⟩ := List.forall_mem_append.mp h
  obtain ⟨h1, h⟩ := List.forall_mem_append.mp h
  obtain ⟨h2, h⟩ := List.forall_mem_append.mp h
  obtain ⟨h3, h⟩ := List.forall_mem_append.mp h
  obtain ⟨h4, h⟩ := List.forall_mem_append.mp h
  obtain ⟨h5, h⟩ := List.forall_mem_append.mp h
  have h6 := h
  exact (av_brP (av_brP (av_lqP h0) (av_brP (av_lqP h1) (av_lqP h2))) (av_brP (av_brP (av_lqP h3) (av_lqP h4)) (av_brP (av_lqP h5) (av_lqP h6))))
def cl_39_0 : List (Nat × av_E) := [(0, av_q (.aload_n 0)), (1, av_qf (.getfield 9) 2 1 2), (4, av_q (.iload_n 3)), (5, av_q (.iconst 0)), (6, av_q (.iadd)), (7, av_q (.iaload))]
def cl_39_1 : List (Nat × av_E) := [(8, av_q (.istore 4)), (10, av_q (.iload 4)), (12, av_qa (.ifCond .eq 9) 21), (15, av_q (.iload 4)), (17, av_q (.iconst 3)), (18, av_qa (.if_icmp .ne 7) 25)]
def cl_39_2 : List (Nat × av_E) := [(21, av_q (.iconst 1)), (22, av_qa (.goto 4) 26), (25, av_q (.iconst 0)), (26, av_q (.istore 5)), (28, av_q (.iload_n 1)), (29, av_q (.iconst 5))]
def cl_39_3 : List (Nat × av_E) := [(30, av_qa (.if_icmp .ne 32) 62), (33, av_q (.iload 5)), (35, av_qa (.ifCond .ne 9) 44), (38, av_q (.iload 4)), (40, av_q (.iconst 2)), (41, av_qa (.if_icmp .ne 19) 60)]
def cl_39_4 : List (Nat × av_E) := [(44, av_q (.aload_n 0)), (45, av_qf (.getfield 9) 2 1 2), (48, av_q (.iload_n 3)), (49, av_q (.iconst 1)), (50, av_q (.iadd)), (51, av_q (.iaload))]
def cl_39_5 : List (Nat × av_E) := [(52, av_q (.iload_n 2)), (53, av_qa (.if_icmp .ne 7) 60), (56, av_q (.iconst 1)), (57, av_qa (.goto 4) 61), (60, av_q (.iconst 0)), (61, av_qa (.ireturn) 1)]
def cl_39_6 : List (Nat × av_E) := [(62, av_q (.iload 5)), (64, av_qa (.ifCond .eq 29) 93), (67, av_q (.aload_n 0)), (68, av_qf (.getfield 9) 2 1 2), (71, av_q (.iload_n 3)), (72, av_q (.iload_n 1))]
def cl_39_7 : List (Nat × av_E) := [(73, av_q (.bipush 7)), (75, av_qa (.if_icmp .ne 7) 82), (78, av_q (.iconst 1)), (79, av_qa (.goto 4) 83), (82, av_q (.iconst 2)), (83, av_q (.iadd))]
def cl_39_8 : List (Nat × av_E) := [(84, av_q (.iaload)), (85, av_q (.iload_n 2)), (86, av_qa (.if_icmp .ne 7) 93), (89, av_q (.iconst 1)), (90, av_qa (.goto 4) 94), (93, av_q (.iconst 0))]
def cl_39_9 : List (Nat × av_E) := [(94, av_qa (.ireturn) 1)]
def cf_39 : Nat → Option av_E := (av_br 51 (av_br 18 (av_br 7 (av_lq cl_39_0) (av_lq cl_39_1)) (av_br 29 (av_lq cl_39_2) (av_br 41 (av_lq cl_39_3) (av_lq cl_39_4)))) (av_br 72 (av_br 61 (av_lq cl_39_5) (av_lq cl_39_6)) (av_br 83 (av_lq cl_39_7) (av_br 93 (av_lq cl_39_8) (av_lq cl_39_9)))))
set_option maxRecDepth 100000 in
set_option maxHeartbeats 4000000 in
theorem ck_39 : ∀ (pc : Nat) (x : av_E), cf_39 pc = some x → cd_39.lookup pc = some x := by
  have h : ∀ q ∈ cl_39_0 ++ (cl_39_1 ++ (cl_39_2 ++ (cl_39_3 ++ (cl_39_4 ++ (cl_39_5 ++ (cl_39_6 ++ (cl_39_7 ++ (cl_39_8 ++ (cl_39_9))))))))), cd_39.lookup q.1 = some q.2 := av_ascQ (cd := cd_39) (by decide +kernel)
  obtain ⟨h0, h⟩ := List.forall_mem_append.mp h
  obtain ⟨h1, h⟩ := List.forall_mem_append.mp h
  obtain ⟨h2, h⟩ := List.forall_mem_append.mp h
  obtain ⟨h3, h⟩ := List.forall_mem_append.mp h
  obtain ⟨h4, h⟩ := List.forall_mem_append.mp h
  obtain ⟨h5, h⟩ := List.forall_mem_append.mp h
  obtain ⟨h6, h⟩ := List.forall_mem_append.mp h
  obtain ⟨h7, h⟩ := List.forall_mem_append.mp h
  obtain ⟨h8, h⟩ := List.forall_mem_append.mp h
  have h9 := h
  exact (av_brP (av_brP (av_brP (av_lqP h0) (av_lqP h1)) (av_brP (av_lqP h2) (av_brP (av_lqP h3) (av_lqP h4)))) (av_brP (av_brP (av_lqP h5) (av_lqP h6)) (av_brP (av_lqP h7) (av_brP (av_lqP h8) (av_lqP h9)))))
def cl_40_0 : List (Nat × av_E) := [(0, av_q (.aload_n 0)), (1, av_q (.iload_n 1)), (2, av_qc (.invokevirtual 113) 42 1 0 2), (5, av_q (.aload_n 0)), (6, av_qf (.getfield 19) 2 0 2), (9, av_qs (.ldc 116) 3)]
def cl_40_1 : List (Nat × av_E) := [(11, av_qc (.invokevirtual 86) 88 1 0 6), (14, av_qa (.ifCond .eq 22) 36), (17, av_q (.aload_n 0)), (18, av_qf (.getfield 9) 2 1 2), (21, av_q (.iload_n 1)), (22, av_q (.iconst 5))]
def cl_40_2 : List (Nat × av_E) := [(23, av_q (.iadd)), (24, av_q (.aload_n 0)), (25, av_qf (.getfield 19) 2 0 2), (28, av_q (.iconst 0)), (29, av_q (.sipush 1999)), (32, av_qc (.invokevirtual 118) 92 2 0 6)]
def cl_40_3 : List (Nat × av_E) := [(35, av_q (.iastore)), (36, av_q (.aload_n 0)), (37, av_qf (.getfield 19) 2 0 2), (40, av_qs (.ldc 121) 4), (42, av_qc (.invokevirtual 86) 88 1 0 6), (45, av_qa (.ifCond .eq 26) 71)]
def cl_40_4 : List (Nat × av_E) := [(48, av_q (.aload_n 0)), (49, av_qf (.getfield 9) 2 1 2), (52, av_q (.iload_n 1)), (53, av_q (.bipush 6)), (55, av_q (.iadd)), (56, av_q (.aload_n 0))]
def cl_40_5 : List (Nat × av_E) := [(57, av_qf (.getfield 19) 2 0 2), (60, av_q (.iconst 0)), (61, av_q (.aload_n 0)), (62, av_qf (.getfield 15) 2 2 0), (65, av_q (.iconst 1)), (66, av_q (.isub))]
def cl_40_6 : List (Nat × av_E) := [(67, av_qc (.invokevirtual 118) 92 2 0 6), (70, av_q (.iastore)), (71, av_q (.return_))]
def cf_40 : Nat → Option av_E := (av_br 32 (av_br 9 (av_lq cl_40_0) (av_br 22 (av_lq cl_40_1) (av_lq cl_40_2))) (av_br 56 (av_br 45 (av_lq cl_40_3) (av_lq cl_40_4)) (av_br 66 (av_lq cl_40_5) (av_lq cl_40_6))))
set_option maxRecDepth 100000 in
set_option maxHeartbeats 4000000 in
theorem ck_40 : ∀ (pc : Nat) (x : av_E), cf_40 pc = some x → cd_40.lookup pc = some x := by
  have h : ∀ q ∈ cl_40_0 ++ (cl_40_1 ++ (cl_40_2 ++ (cl_40_3 ++ (cl_40_4 ++ (cl_40_5 ++ (cl_40_6)))))), cd_40.lookup q.1 = some q.2 := av_ascQ (cd := cd_40) (by decide +kernel)
  obtain ⟨h0, h⟩ := List.forall_mem_append.mp h
  obtain ⟨h1, h⟩ := List.forall_mem_append.mp h
  obtain ⟨h2, h⟩ := List.forall_mem_append.mp h
  obtain ⟨h3, h⟩ := List.forall_mem_append.mp h
  obtain ⟨h4, h⟩ := List.forall_mem_append.mp h
  obtain ⟨h5, h⟩ := List.forall_mem_append.mp h
  have h6 := h
  exact (av_brP (av_brP (av_lqP h0) (av_brP (av_lqP h1) (av_lqP h2))) (av_brP (av_brP (av_lqP h3) (av_lqP h4)) (av_brP (av_lqP h5) (av_lqP h6))))
def cl_41_0 : List (Nat × av_E) := [(0, av_q (.aload_n 0)), (1, av_qf (.getfield 9) 2 1 2), (4, av_q (.iload_n 1)), (5, av_q (.iconst 0)), (6, av_q (.iadd)), (7, av_q (.iconst 3))]
def cl_41_1 : List (Nat × av_E) := [(8, av_q (.iastore)), (9, av_q (.aload_n 0)), (10, av_qf (.getfield 9) 2 1 2), (13, av_q (.iload_n 1)), (14, av_q (.iconst 3)), (15, av_q (.iadd))]
def cl_41_2 : List (Nat × av_E) := [(16, av_q (.iaload)), (17, av_q (.istore_n 2)), (18, av_q (.iload_n 2)), (19, av_qa (.ifCond .lt 28) 47), (22, av_q (.iload_n 2)), (23, av_q (.bipush 12))]
def cl_41_3 : List (Nat × av_E) := [(25, av_qa (.if_icmp .ge 22) 47), (28, av_q (.aload_n 0)), (29, av_qf (.getfield 9) 2 1 2), (32, av_q (.iload_n 1)), (33, av_q (.iconst 2)), (34, av_q (.iadd))]
def cl_41_4 : List (Nat × av_E) := [(35, av_q (.aload_n 0)), (36, av_qf (.getfield 9) 2 1 2), (39, av_q (.iload_n 2)), (40, av_q (.bipush 21)), (42, av_q (.imul)), (43, av_q (.iconst 1))]
def cl_41_5 : List (Nat × av_E) := [(44, av_q (.iadd)), (45, av_q (.iaload)), (46, av_q (.iastore)), (47, av_q (.aload_n 0)), (48, av_qf (.getfield 19) 2 0 2), (51, av_qs (.ldc 123) 2)]
def cl_41_6 : List (Nat × av_E) := [(53, av_qc (.invokevirtual 99) 86 1 0 6), (56, av_q (.iconst (-1))), (57, av_qa (.if_icmp .ne 10) 67), (60, av_q (.aload_n 0)), (61, av_qf (.getfield 19) 2 0 2), (64, av_qc (.invokevirtual 47) 85 0 0 6)]
def cl_41_7 : List (Nat × av_E) := [(67, av_q (.aload_n 0)), (68, av_q (.iload_n 1)), (69, av_qc (.invokevirtual 113) 42 1 0 2), (72, av_q (.return_))]
def cf_41 : Nat → Option av_E := (av_br 34 (av_br 15 (av_br 7 (av_lq cl_41_0) (av_lq cl_41_1)) (av_br 23 (av_lq cl_41_2) (av_lq cl_41_3))) (av_br 51 (av_br 43 (av_lq cl_41_4) (av_lq cl_41_5)) (av_br 64 (av_lq cl_41_6) (av_lq cl_41_7))))
set_option maxRecDepth 100000 in
set_option maxHeartbeats 4000000 in
theorem ck_41 : ∀ (pc : Nat) (x : av_E), cf_41 pc = some x → cd_41.lookup pc = some x := by
  have h : ∀ q ∈ cl_41_0 ++ (cl_41_1 ++ (cl_41_2 ++ (cl_41_3 ++ (cl_41_4 ++ (cl_41_5 ++ (cl_41_6 ++ (cl_41_7))))))), cd_41.lookup q.1 = some q.2 := av_ascQ (cd := cd_41) (by decide +kernel)
  obtain ⟨h0, h⟩ := List.forall_mem_append.mp h
  obtain ⟨h1, h⟩ := List.forall_mem_append.mp h
  obtain ⟨h2, h⟩ := List.forall_mem_append.mp h
  obtain ⟨h3, h⟩ := List.forall_mem_append.mp h
  obtain ⟨h4, h⟩ := List.forall_mem_append.mp h
  obtain ⟨h5, h⟩ := List.forall_mem_append.mp h
  obtain ⟨h6, h⟩ := List.forall_mem_append.mp h
  have h7 := h
  exact (av_brP (av_brP (av_brP (av_lqP h0) (av_lqP h1)) (av_brP (av_lqP h2) (av_lqP h3))) (av_brP (av_brP (av_lqP h4) (av_lqP h5)) (av_brP (av_lqP h6) (av_lqP h7))))
def cl_42_0 : List (Nat × av_E) := [(0, av_q (.iconst 0)), (1, av_q (.istore_n 2)), (2, av_q (.iload_n 2)), (3, av_q (.sipush 900)), (6, av_qa (.if_icmp .ge 54) 60), (9, av_q (.aload_n 0))]
def cl_42_1 : List (Nat × av_E) := [(10, av_qf (.getfield 19) 2 0 2), (13, av_qs (.ldc 123) 2), (15, av_qc (.invokevirtual 99) 86 1 0 6), (18, av_q (.istore_n 3)), (19, av_q (.iload_n 3)), (20, av_q (.iconst (-1)))]
def cl_42_2 : List (Nat × av_E) := [(21, av_qa (.if_icmp .ne 4) 25), (24, av_q (.return_)), (25, av_q (.aload_n 0)), (26, av_qf (.getfield 19) 2 0 2), (29, av_qc (.invokevirtual 110) 82 0 0 6), (32, av_q (.aload_n 0))]
def cl_42_3 : List (Nat × av_E) := [(33, av_qf (.getfield 9) 2 1 2), (36, av_q (.iload_n 1)), (37, av_q (.bipush 10)), (39, av_q (.iadd)), (40, av_q (.iload_n 3)), (41, av_q (.iadd))]
def cl_42_4 : List (Nat × av_E) := [(42, av_q (.aload_n 0)), (43, av_qf (.getfield 19) 2 0 2), (46, av_q (.iconst 0)), (47, av_q (.sipush 999)), (50, av_qc (.invokevirtual 118) 92 2 0 6), (53, av_q (.iastore))]
def cl_42_5 : List (Nat × av_E) := [(54, av_q (.iinc 2 1)), (57, av_qa (.goto (-55)) 2), (60, av_q (.return_))]
def cf_42 : Nat → Option av_E := (av_br 32 (av_br 9 (av_lq cl_42_0) (av_br 20 (av_lq cl_42_1) (av_lq cl_42_2))) (av_br 41 (av_lq cl_42_3) (av_br 53 (av_lq cl_42_4) (av_lq cl_42_5))))
set_option maxRecDepth 100000 in
set_option maxHeartbeats 4000000 in
theorem ck_42 : ∀ (pc : Nat) (x : av_E), cf_42 pc = some x → cd_42.lookup pc = some x := by
  have h : ∀ q ∈ cl_42_0 ++ (cl_42_1 ++ (cl_42_2 ++ (cl_42_3 ++ (cl_42_4 ++ (cl_42_5))))), cd_42.lookup q.1 = some q.2 := av_ascQ (cd := cd_42) (by decide +kernel)
  obtain ⟨h0, h⟩ := List.forall_mem_append.mp h
  obtain ⟨h1, h⟩ := List.forall_mem_append.mp h
  obtain ⟨h2, h⟩ := List.forall_mem_append.mp h
  obtain ⟨h3, h⟩ := List.forall_mem_append.mp h
  obtain ⟨h4, h⟩ := List.forall_mem_append.mp h
  have h5 := h
  exact (av_brP (av_brP (av_lqP h0) (av_brP (av_lqP h1) (av_lqP h2))) (av_brP (av_lqP h3) (av_brP (av_lqP h4) (av_lqP h5))))
def cl_43_0 : List (Nat × av_E) := [(0, av_q (.aload_n 0)), (1, av_qf (.getfield 19) 2 0 2), (4, av_qs (.ldc 125) 6), (6, av_qc (.invokevirtual 68) 87 1 0 6), (9, av_q (.istore_n 2)), (10, av_q (.aload_n 0))]
def cl_43_1 : List (Nat × av_E) := [(11, av_qf (.getfield 9) 2 1 2), (14, av_q (.iload_n 1)), (15, av_q (.iconst 4)), (16, av_q (.iadd)), (17, av_q (.iload_n 2)), (18, av_q (.iastore))]
def cl_43_2 : List (Nat × av_E) := [(19, av_q (.aload_n 0)), (20, av_qf (.getfield 19) 2 0 2), (23, av_qs (.ldc 127) 7), (25, av_qc (.invokevirtual 129) 89 1 0 6), (28, av_q (.aload_n 0)), (29, av_q (.iload_n 1))]
def cl_43_3 : List (Nat × av_E) := [(30, av_q (.iconst 0)), (31, av_q (.sipush 1999)), (34, av_qc (.invokevirtual 133) 44 3 0 2), (37, av_q (.iload_n 2)), (38, av_q (.iconst 1)), (39, av_qa (.if_icmp .le 4) 43)]
def cl_43_4 : List (Nat × av_E) := [(42, av_q (.return_)), (43, av_q (.aload_n 0)), (44, av_qf (.getfield 19) 2 0 2), (47, av_qs (.ldc 137) 9), (49, av_qc (.invokevirtual 129) 89 1 0 6), (52, av_q (.aload_n 0))]
def cl_43_5 : List (Nat × av_E) := [(53, av_q (.iload_n 1)), (54, av_q (.iconst 1)), (55, av_q (.sipush 999)), (58, av_qc (.invokevirtual 133) 44 3 0 2), (61, av_q (.aload_n 0)), (62, av_qf (.getfield 19) 2 0 2)]
def cl_43_6 : List (Nat × av_E) := [(65, av_qs (.ldc 139) 10), (67, av_qc (.invokevirtual 86) 88 1 0 6), (70, av_qa (.ifCond .eq 12) 82), (73, av_q (.aload_n 0)), (74, av_q (.iload_n 1)), (75, av_q (.iconst 2))]
def cl_43_7 : List (Nat × av_E) := [(76, av_q (.sipush 999)), (79, av_qc (.invokevirtual 133) 44 3 0 2), (82, av_q (.aload_n 0)), (83, av_qf (.getfield 19) 2 0 2), (86, av_qs (.ldc 141) 11), (88, av_qc (.invokevirtual 86) 88 1 0 6)]
def cl_43_8 : List (Nat × av_E) := [(91, av_qa (.ifCond .eq 15) 106), (94, av_q (.aload_n 0)), (95, av_qf (.getfield 9) 2 1 2), (98, av_q (.iload_n 1)), (99, av_q (.bipush 15)), (101, av_q (.iadd))]
def cl_43_9 : List (Nat × av_E) := [(102, av_q (.iconst 3)), (103, av_q (.iadd)), (104, av_q (.iconst 2)), (105, av_q (.iastore)), (106, av_q (.return_))]
def cf_43 : Nat → Option av_E := (av_br 52 (av_br 18 (av_br 10 (av_lq cl_43_0) (av_lq cl_43_1)) (av_br 29 (av_lq cl_43_2) (av_br 39 (av_lq cl_43_3) (av_lq cl_43_4)))) (av_br 75 (av_br 62 (av_lq cl_43_5) (av_lq cl_43_6)) (av_br 88 (av_lq cl_43_7) (av_br 101 (av_lq cl_43_8) (av_lq cl_43_9)))))
set_option maxRecDepth 100000 in
set_option maxHeartbeats 4000000 in
theorem ck_43 : ∀ (pc : Nat) (x : av_E), cf_43 pc = some x → cd_43.lookup pc = some x := by
  have h : ∀ q ∈ cl_43_0 ++ (cl_43_1 ++ (cl_43_2 ++ (cl_43_3 ++ (cl_43_4 ++ (cl_43_5 ++ (cl_43_6 ++ (cl_43_7 ++ (cl_43_8 ++ (cl_43_9))))))))), cd_43.lookup q.1 = some q.2 := av_ascQ (cd := cd_43) (by decide +kernel)
  obtain ⟨h0, h⟩ := List.forall_mem_append.mp h
  obtain ⟨h1, h⟩ := List.forall_mem_append.mp h
  obtain ⟨h2, h⟩ := List.forall_mem_append.mp h
  obtain ⟨h3, h⟩ := List.forall_mem_append.mp h
  obtain ⟨h4, h⟩ := List.forall_mem_append.mp h
  obtain ⟨h5, h⟩ := List.forall_mem_append.mp h
  obtain ⟨h6, h⟩ := List.forall_mem_append.mp h
  obtain ⟨h7, h⟩ := List.forall_mem_append.mp h
  obtain ⟨h8, h⟩ := List.forall_mem_append.mp h
  have h9 := h
  exact (av_brP (av_brP (av_brP (av_lqP h0) (av_lqP h1)) (av_brP (av_lqP h2) (av_brP (av_lqP h3) (av_lqP h4)))) (av_brP (av_brP (av_lqP h5) (av_lqP h6)) (av_brP (av_lqP h7) (av_brP (av_lqP h8) (av_lqP h9)))))
def cl_44_0 : List (Nat × av_E) := [(0, av_q (.aload_n 0)), (1, av_qf (.getfield 19) 2 0 2), (4, av_q (.iconst 0)), (5, av_q (.iload_n 3)), (6, av_qc (.invokevirtual 118) 92 2 0 6), (9, av_q (.istore 4))]
def cl_44_1 : List (Nat × av_E) := [(11, av_q (.aload_n 0)), (12, av_qf (.getfield 9) 2 1 2), (15, av_q (.iload_n 1)), (16, av_q (.bipush 7)), (18, av_q (.iadd)), (19, av_q (.iload_n 2))]
def cl_44_2 : List (Nat × av_E) := [(20, av_q (.iadd)), (21, av_q (.iload 4)), (23, av_q (.iastore)), (24, av_q (.aload_n 0)), (25, av_qf (.getfield 19) 2 0 2), (28, av_qs (.ldc 143) 8)]
def cl_44_3 : List (Nat × av_E) := [(30, av_qc (.invokevirtual 86) 88 1 0 6), (33, av_qa (.ifCond .eq 41) 74), (36, av_q (.aload_n 0)), (37, av_qf (.getfield 19) 2 0 2), (40, av_q (.iload 4)), (42, av_q (.iload_n 3))]
def cl_44_4 : List (Nat × av_E) := [(43, av_q (.iload 4)), (45, av_q (.bipush 15)), (47, av_q (.iadd)), (48, av_qa (.invokestatic 28) 1002), (51, av_qc (.invokevirtual 118) 92 2 0 6), (54, av_q (.istore 5))]
def cl_44_5 : List (Nat × av_E) := [(56, av_q (.aload_n 0)), (57, av_qf (.getfield 9) 2 1 2), (60, av_q (.iload_n 1)), (61, av_q (.bipush 15)), (63, av_q (.iadd)), (64, av_q (.iload_n 2))]
def cl_44_6 : List (Nat × av_E) := [(65, av_q (.iadd)), (66, av_q (.iload 5)), (68, av_q (.iload 4)), (70, av_q (.isub)), (71, av_q (.iconst 1)), (72, av_q (.iadd))]
def cl_44_7 : List (Nat × av_E) := [(73, av_q (.iastore)), (74, av_q (.return_))]
def cf_44 : Nat → Option av_E := (av_br 42 (av_br 19 (av_br 9 (av_lq cl_44_0) (av_lq cl_44_1)) (av_br 28 (av_lq cl_44_2) (av_lq cl_44_3))) (av_br 64 (av_br 54 (av_lq cl_44_4) (av_lq cl_44_5)) (av_br 72 (av_lq cl_44_6) (av_lq cl_44_7))))
set_option maxRecDepth 100000 in
set_option maxHeartbeats 4000000 in
theorem ck_44 : ∀ (pc : Nat) (x : av_E), cf_44 pc = some x → cd_44.lookup pc = some x := by
  have h : ∀ q ∈ cl_44_0 ++ (cl_44_1 ++ (cl_44_2 ++ (cl_44_3 ++ (cl_44_4 ++ (cl_44_5 ++ (cl_44_6 ++ (cl_44_7))))))), cd_44.lookup q.1 = some q.2 := av_ascQ (cd := cd_44) (by decide +kernel)
  obtain ⟨h0, h⟩ := List.forall_mem_append.mp h
  obtain ⟨h1, h⟩ := List.forall_mem_append.mp h
  obtain ⟨h2, h⟩ := List.forall_mem_append.mp h
  obtain ⟨h3, h⟩ := List.forall_mem_append.mp h
  obtain ⟨h4, h⟩ := List.forall_mem_append.mp h
  obtain ⟨h5, h⟩ := List.forall_mem_append.mp h
  obtain ⟨h6, h⟩ := List.forall_mem_append.mp h
  have h7 := h
  exact (av_brP (av_brP (av_brP (av_lqP h0) (av_lqP h1)) (av_brP (av_lqP h2) (av_lqP h3))) (av_brP (av_brP (av_lqP h4) (av_lqP h5)) (av_brP (av_lqP h6) (av_lqP h7))))
def cl_47_0 : List (Nat × av_E) := [(0, av_q (.aload_n 0)), (1, av_qf (.getfield 49) 3 1 2), (4, av_q (.aload_n 1)), (5, av_q (.aload_n 0)), (6, av_qf (.getfield 22) 3 7 2), (9, av_q (.aload_n 0))]
def cl_47_1 : List (Nat × av_E) := [(10, av_qf (.getfield 11) 3 4 2), (13, av_q (.sipush 128)), (16, av_qc (.invokevirtual 64) 1 4 0 0), (19, av_q (.aload_n 0)), (20, av_qf (.getfield 49) 3 1 2), (23, av_q (.iload_n 2))]
def cl_47_2 : List (Nat × av_E) := [(24, av_qc (.invokevirtual 68) 4 1 0 0), (27, av_q (.aload_n 0)), (28, av_qf (.getfield 49) 3 1 2), (31, av_q (.iload_n 3)), (32, av_q (.iload 4)), (34, av_qc (.invokevirtual 72) 6 2 0 0)]
def cl_47_3 : List (Nat × av_E) := [(37, av_q (.ireturn))]
def cf_47 : Nat → Option av_E := (av_br 23 (av_br 9 (av_lq cl_47_0) (av_lq cl_47_1)) (av_br 34 (av_lq cl_47_2) (av_lq cl_47_3)))
set_option maxRecDepth 100000 in
set_option maxHeartbeats 4000000 in
theorem ck_47 : ∀ (pc : Nat) (x : av_E), cf_47 pc = some x → cd_47.lookup pc = some x := by
  have h : ∀ q ∈ cl_47_0 ++ (cl_47_1 ++ (cl_47_2 ++ (cl_47_3))), cd_47.lookup q.1 = some q.2 := av_ascQ (cd := cd_47) (by decide +kernel)
  obtain ⟨h0, h⟩ := List.forall_mem_append.mp h
  obtain ⟨h1, h⟩ := List.forall_mem_append.mp h
  obtain ⟨h2, h⟩ := List.forall_mem_append.mp h
  have h3 := h
  exact (av_brP (av_brP (av_lqP h0) (av_lqP h1)) (av_brP (av_lqP h2) (av_lqP h3)))
def cl_48_0 : List (Nat × av_E) := [(0, av_q (.aload_n 0)), (1, av_qf (.getfield 40) 3 0 2), (4, av_q (.iload_n 1)), (5, av_qc (.invokevirtual 76) 69 1 0 5), (8, av_q (.astore 4)), (10, av_q (.aload 4))]
def cl_48_1 : List (Nat × av_E) := [(12, av_qa (.ifnull 31) 43), (15, av_q (.iload_n 3)), (16, av_qa (.ifCond .lt 27) 43), (19, av_q (.iload_n 3)), (20, av_q (.aload 4)), (22, av_qf (.getfield 82) 1 3 0)]
def cl_48_2 : List (Nat × av_E) := [(25, av_qa (.if_icmp .ge 18) 43), (28, av_q (.aload_n 0)), (29, av_q (.aload_n 0)), (30, av_qf (.getfield 49) 3 1 2), (33, av_q (.aload 4)), (35, av_q (.iload_n 1))]
def cl_48_3 : List (Nat × av_E) := [(36, av_q (.iload_n 2)), (37, av_qc (.invokevirtual 85) 51 4 0 3), (40, av_qa (.ifCond .ne 5) 45), (43, av_q (.iconst 0)), (44, av_qa (.ireturn) 1), (45, av_q (.aload_n 0))]
def cl_48_4 : List (Nat × av_E) := [(46, av_qf (.getfield 49) 3 1 2), (49, av_q (.iload_n 3)), (50, av_qc (.invokevirtual 89) 2 1 0 0), (53, av_q (.pop)), (54, av_q (.iconst 1)), (55, av_qa (.ireturn) 1)]
def cf_48 : Nat → Option av_E := (av_br 22 (av_br 10 (av_lq cl_48_0) (av_lq cl_48_1)) (av_br 35 (av_lq cl_48_2) (av_br 45 (av_lq cl_48_3) (av_lq cl_48_4))))
set_option maxRecDepth 100000 in
set_option maxHeartbeats 4000000 in
theorem ck_48 : ∀ (pc : Nat) (x : av_E), cf_48 pc = some x → cd_48.lookup pc = some x := by
  have h : ∀ q ∈ cl_48_0 ++ (cl_48_1 ++ (cl_48_2 ++ (cl_48_3 ++ (cl_48_4)))), cd_48.lookup q.1 = some q.2 := av_ascQ (cd := cd_48) (by decide +kernel)
  obtain ⟨h0, h⟩ := List.forall_mem_append.mp h
  obtain ⟨h1, h⟩ := List.forall_mem_append.mp h
  obtain ⟨h2, h⟩ := List.forall_mem_append.mp h
  obtain ⟨h3, h⟩ := List.forall_mem_append.mp h
  have h4 := h
  exact (av_brP (av_brP (av_lqP h0) (av_lqP h1)) (av_brP (av_lqP h2) (av_brP (av_lqP h3) (av_lqP h4))))
def cl_49_0 : List (Nat × av_E) := [(0, av_q (.aload_n 0)), (1, av_q (.aload_n 0)), (2, av_qf (.getfield 49) 3 1 2), (5, av_q (.aload_n 0)), (6, av_qf (.getfield 40) 3 0 2), (9, av_q (.iload_n 1))]
def cl_49_1 : List (Nat × av_E) := [(10, av_qc (.invokevirtual 76) 69 1 0 5), (13, av_q (.iload_n 1)), (14, av_q (.iload_n 2)), (15, av_qc (.invokevirtual 85) 51 4 0 3), (18, av_qa (.ireturn) 1)]
def cf_49 : Nat → Option av_E := (av_br 9 (av_lq cl_49_0) (av_lq cl_49_1))
set_option maxRecDepth 100000 in
set_option maxHeartbeats 4000000 in
theorem ck_49 : ∀ (pc : Nat) (x : av_E), cf_49 pc = some x → cd_49.lookup pc = some x := by
  have h : ∀ q ∈ cl_49_0 ++ (cl_49_1), cd_49.lookup q.1 = some q.2 := av_ascQ (cd := cd_49) (by decide +kernel)
  obtain ⟨h0, h⟩ := List.forall_mem_append.mp h
  have h1 := h
  exact (av_brP (av_lqP h0) (av_lqP h1))
def cl_50_0 : List (Nat × av_E) := [(0, av_q (.aload_n 0)), (1, av_qf (.getfield 40) 3 0 2), (4, av_q (.iload_n 1)), (5, av_qc (.invokevirtual 76) 69 1 0 5), (8, av_q (.astore 4)), (10, av_q (.aload_n 0))]
def cl_50_1 : List (Nat × av_E) := [(11, av_q (.aload_n 0)), (12, av_qf (.getfield 49) 3 1 2), (15, av_q (.aload 4)), (17, av_q (.iload_n 1)), (18, av_q (.iload_n 2)), (19, av_qc (.invokevirtual 85) 51 4 0 3)]
def cl_50_2 : List (Nat × av_E) := [(22, av_qa (.ifCond .eq 22) 44), (25, av_q (.aload_n 0)), (26, av_q (.aload_n 0)), (27, av_qf (.getfield 53) 3 2 2), (30, av_q (.aload 4)), (32, av_q (.iload_n 1))]
def cl_50_3 : List (Nat × av_E) := [(33, av_q (.iload_n 3)), (34, av_qc (.invokevirtual 85) 51 4 0 3), (37, av_qa (.ifCond .eq 7) 44), (40, av_q (.iconst 1)), (41, av_qa (.goto 4) 45), (44, av_q (.iconst 0))]
def cl_50_4 : List (Nat × av_E) := [(45, av_qa (.ireturn) 1)]
def cf_50 : Nat → Option av_E := (av_br 19 (av_br 10 (av_lq cl_50_0) (av_lq cl_50_1)) (av_br 32 (av_lq cl_50_2) (av_br 44 (av_lq cl_50_3) (av_lq cl_50_4))))
set_option maxRecDepth 100000 in
set_option maxHeartbeats 4000000 in
theorem ck_50 : ∀ (pc : Nat) (x : av_E), cf_50 pc = some x → cd_50.lookup pc = some x := by
  have h : ∀ q ∈ cl_50_0 ++ (cl_50_1 ++ (cl_50_2 ++ (cl_50_3 ++ (cl_50_4)))), cd_50.lookup q.1 = some q.2 := av_ascQ (cd := cd_50) (by decide +kernel)
  obtain ⟨h0, h⟩ := List.forall_mem_append.mp h
  obtain ⟨h1, h⟩ := List.forall_mem_append.mp h
  obtain ⟨h2, h⟩ := List.forall_mem_append.mp h
  obtain ⟨h3, h⟩ := List.forall_mem_append.mp h
  have h4 := h
  exact (av_brP (av_brP (av_lqP h0) (av_lqP h1)) (av_brP (av_lqP h2) (av_brP (av_lqP h3) (av_lqP h4))))
def cl_51_0 : List (Nat × av_E) := [(0, av_q (.aload_n 2)), (1, av_qa (.ifnull 23) 24), (4, av_q (.aload_n 2)), (5, av_qf (.getfield 82) 1 3 0), (8, av_q (.iconst (-1))), (9, av_qa (.if_icmp .eq 15) 24)]
def cl_51_1 : List (Nat × av_E) := [(12, av_q (.aload_n 0)), (13, av_qf (.getfield 40) 3 0 2), (16, av_q (.iload 4)), (18, av_qc (.invokevirtual 93) 70 1 0 5), (21, av_qa (.ifCond .ne 5) 26), (24, av_q (.iconst 0))]
def cl_51_2 : List (Nat × av_E) := [(25, av_qa (.ireturn) 1), (26, av_q (.aload_n 0)), (27, av_q (.aload_n 2)), (28, av_q (.iload_n 3)), (29, av_q (.aload_n 0)), (30, av_qf (.getfield 40) 3 0 2)]
def cl_51_3 : List (Nat × av_E) := [(33, av_qf (.getfield 96) 5 1 2), (36, av_q (.iload 4)), (38, av_q (.aaload)), (39, av_q (.iload 4)), (41, av_q (.bipush 16)), (43, av_q (.imul))]
def cl_51_4 : List (Nat × av_E) := [(44, av_qc (.invokevirtual 100) 52 4 0 3), (47, av_q (.aload_n 1)), (48, av_q (.aload_n 2)), (49, av_q (.aload_n 0)), (50, av_qf (.getfield 40) 3 0 2), (53, av_qf (.getfield 96) 5 1 2)]
def cl_51_5 : List (Nat × av_E) := [(56, av_q (.iload 4)), (58, av_q (.aaload)), (59, av_q (.aload_n 0)), (60, av_qf (.getfield 11) 3 4 2), (63, av_q (.iload 4)), (65, av_q (.bipush 16))]
def cl_51_6 : List (Nat × av_E) := [(67, av_q (.imul)), (68, av_qc (.invokevirtual 64) 1 4 0 0), (71, av_q (.iconst 1)), (72, av_qa (.ireturn) 1)]
def cf_51 : Nat → Option av_E := (av_br 30 (av_br 9 (av_lq cl_51_0) (av_br 24 (av_lq cl_51_1) (av_lq cl_51_2))) (av_br 53 (av_br 43 (av_lq cl_51_3) (av_lq cl_51_4)) (av_br 65 (av_lq cl_51_5) (av_lq cl_51_6))))
set_option maxRecDepth 100000 in
set_option maxHeartbeats 4000000 in
theorem ck_51 : ∀ (pc : Nat) (x : av_E), cf_51 pc = some x → cd_51.lookup pc = some x := by
  have h : ∀ q ∈ cl_51_0 ++ (cl_51_1 ++ (cl_51_2 ++ (cl_51_3 ++ (cl_51_4 ++ (cl_51_5 ++ (cl_51_6)))))), cd_51.lookup q.1 = some q.2 := av_ascQ (cd := cd_51) (by decide +kernel)
  obtain ⟨h0, h⟩ := List.forall_mem_append.mp h
  obtain ⟨h1, h⟩ := List.forall_mem_append.mp h
  obtain ⟨h2, h⟩ := List.forall_mem_append.mp h
  obtain ⟨h3, h⟩ := List.forall_mem_append.mp h
  obtain ⟨h4, h⟩ := List.forall_mem_append.mp h
  obtain ⟨h5, h⟩ := List.forall_mem_append.mp h
  have h6 := h
  exact (av_brP (av_brP (av_lqP h0) (av_brP (av_lqP h1) (av_lqP h2))) (av_brP (av_brP (av_lqP h3) (av_lqP h4)) (av_brP (av_lqP h5) (av_lqP h6))))
def cl_52_0 : List (Nat × av_E) := [(0, av_q (.aload_n 0)), (1, av_q (.aload_n 1)), (2, av_q (.iload_n 2)), (3, av_qc (.invokevirtual 104) 53 2 0 3), (6, av_qa (.ifCond .ne 4) 10), (9, av_q (.return_))]
def cl_52_1 : List (Nat × av_E) := [(10, av_q (.iconst 0)), (11, av_q (.istore 5)), (13, av_q (.iload 5)), (15, av_q (.iload_n 2)), (16, av_qa (.if_icmp .ge 112) 128), (19, av_q (.aload_n 0))]
def cl_52_2 : List (Nat × av_E) := [(20, av_qf (.getfield 40) 3 0 2), (23, av_q (.iload 5)), (25, av_qc (.invokevirtual 76) 69 1 0 5), (28, av_q (.astore 6)), (30, av_q (.aload 6)), (32, av_qa (.ifnull 90) 122)]
def cl_52_3 : List (Nat × av_E) := [(35, av_q (.aload_n 0)), (36, av_qf (.getfield 15) 3 5 2), (39, av_q (.iload 5)), (41, av_q (.baload)), (42, av_qa (.ifCond .eq 80) 122), (45, av_q (.aload_n 0))]
def cl_52_4 : List (Nat × av_E) := [(46, av_qf (.getfield 11) 3 4 2), (49, av_q (.iload 4)), (51, av_q (.iload 5)), (53, av_q (.iadd)), (54, av_q (.iaload)), (55, av_qa (.ifCond .ne 67) 122)]
def cl_52_5 : List (Nat × av_E) := [(58, av_q (.aload_n 0)), (59, av_qf (.getfield 56) 3 3 2), (62, av_q (.aload 6)), (64, av_q (.aload_n 3)), (65, av_q (.aload_n 0)), (66, av_qf (.getfield 11) 3 4 2)]
def cl_52_6 : List (Nat × av_E) := [(69, av_q (.iload 4)), (71, av_qc (.invokevirtual 64) 1 4 0 0), (74, av_q (.aload 6)), (76, av_qf (.getfield 82) 1 3 0), (79, av_q (.iconst (-1))), (80, av_qa (.if_icmp .eq 19) 99)]
def cl_52_7 : List (Nat × av_E) := [(83, av_q (.aload_n 0)), (84, av_qf (.getfield 56) 3 3 2), (87, av_q (.iconst 0)), (88, av_qc (.invokestatic 108) 55 2 2 3), (91, av_q (.iconst (-1))), (92, av_qa (.if_icmp .ne 7) 99)]
def cl_52_8 : List (Nat × av_E) := [(95, av_q (.iconst 1)), (96, av_qa (.goto 4) 100), (99, av_q (.iconst 0)), (100, av_q (.istore 7)), (102, av_q (.aload_n 0)), (103, av_qf (.getfield 11) 3 4 2)]
def cl_52_9 : List (Nat × av_E) := [(106, av_q (.iload 4)), (108, av_q (.iload 5)), (110, av_q (.iadd)), (111, av_q (.iload 7)), (113, av_qa (.ifCond .eq 7) 120), (116, av_q (.iconst 2))]
def cl_52_10 : List (Nat × av_E) := [(117, av_qa (.goto 4) 121), (120, av_q (.iconst 1)), (121, av_q (.iastore)), (122, av_q (.iinc 5 1)), (125, av_qa (.goto (-112)) 13), (128, av_q (.return_))]
def cf_52 : Nat → Option av_E := (av_br 55 (av_br 19 (av_br 9 (av_lq cl_52_0) (av_lq cl_52_1)) (av_br 32 (av_lq cl_52_2) (av_br 45 (av_lq cl_52_3) (av_lq cl_52_4)))) (av_br 92 (av_br 66 (av_lq cl_52_5) (av_br 80 (av_lq cl_52_6) (av_lq cl_52_7))) (av_br 103 (av_lq cl_52_8) (av_br 116 (av_lq cl_52_9) (av_lq cl_52_10)))))
set_option maxRecDepth 100000 in
set_option maxHeartbeats 4000000 in
theorem ck_52 : ∀ (pc : Nat) (x : av_E), cf_52 pc = some x → cd_52.lookup pc = some x := by
  have h : ∀ q ∈ cl_52_0 ++ (cl_52_1 ++ (cl_52_2 ++ (cl_52_3 ++ (cl_52_4 ++ (cl_52_5 ++ (cl_52_6 ++ (cl_52_7 ++ (cl_52_8 ++ (cl_52_9 ++ (cl_52_10)))))))))), cd_52.lookup q.1 = some q.2 := av_ascQ (cd := cd_52) (by decide +kernel)
  obtain ⟨h0, h⟩ := List.forall_mem_append.mp h
  obtain ⟨h1, h⟩ := List.forall_mem_append.mp h
  obtain ⟨h2, h⟩ := List.forall_mem_append.mp h
  obtain ⟨h3, h⟩ := List.forall_mem_append.mp h
  obtain ⟨h4, h⟩ := List.forall_mem_append.mp h
  obtain ⟨h5, h⟩ := List.forall_mem_append.mp h
  obtain ⟨h6, h⟩ := List.forall_mem_append.mp h
  obtain ⟨h7, h⟩ := List.forall_mem_append.mp h
  obtain ⟨h8, h⟩ := List.forall_mem_append.mp h
  obtain ⟨h9, h⟩ := List.forall_mem_append.mp h
  have h10 := h
  exact (av_brP (av_brP (av_brP (av_lqP h0) (av_lqP h1)) (av_brP (av_lqP h2) (av_brP (av_lqP h3) (av_lqP h4)))) (av_brP (av_brP (av_lqP h5) (av_brP (av_lqP h6) (av_lqP h7))) (av_brP (av_lqP h8) (av_brP (av_lqP h9) (av_lqP h10)))))
def cl_53_0 : List (Nat × av_E) := [(0, av_q (.iconst 0)), (1, av_q (.istore_n 3)), (2, av_q (.iload_n 3)), (3, av_q (.bipush 16)), (5, av_qa (.if_icmp .ge 16) 21), (8, av_q (.aload_n 0))]
def cl_53_1 : List (Nat × av_E) := [(9, av_qf (.getfield 15) 3 5 2), (12, av_q (.iload_n 3)), (13, av_q (.iconst 0)), (14, av_q (.bastore)), (15, av_q (.iinc 3 1)), (18, av_qa (.goto (-16)) 2)]
def cl_53_2 : List (Nat × av_E) := [(21, av_q (.aload_n 0)), (22, av_q (.aload_n 1)), (23, av_qc (.invokevirtual 112) 54 1 0 3), (26, av_q (.istore_n 3)), (27, av_q (.iload_n 2)), (28, av_q (.iconst 1))]
def cl_53_3 : List (Nat × av_E) := [(29, av_q (.isub)), (30, av_q (.istore 4)), (32, av_q (.iload_n 3)), (33, av_qa (.ifCond .eq 47) 80), (36, av_q (.iload 4)), (38, av_qa (.ifCond .lt 42) 80)]
def cl_53_4 : List (Nat × av_E) := [(41, av_q (.aload_n 0)), (42, av_qf (.getfield 40) 3 0 2), (45, av_q (.iload 4)), (47, av_qc (.invokevirtual 76) 69 1 0 5), (50, av_q (.astore 5)), (52, av_q (.aload 5))]
def cl_53_5 : List (Nat × av_E) := [(54, av_qa (.ifnull 20) 74), (57, av_q (.aload_n 0)), (58, av_qf (.getfield 15) 3 5 2), (61, av_q (.iload 4)), (63, av_q (.baload)), (64, av_qa (.ifCond .eq 10) 74)]
def cl_53_6 : List (Nat × av_E) := [(67, av_q (.aload_n 0)), (68, av_q (.aload 5)), (70, av_qc (.invokevirtual 112) 54 1 0 3), (73, av_q (.pop)), (74, av_q (.iinc 4 (-1))), (77, av_qa (.goto (-45)) 32)]
def cl_53_7 : List (Nat × av_E) := [(80, av_q (.iload_n 3)), (81, av_qa (.ireturn) 1)]
def cf_53 : Nat → Option av_E := (av_br 38 (av_br 18 (av_br 8 (av_lq cl_53_0) (av_lq cl_53_1)) (av_br 28 (av_lq cl_53_2) (av_lq cl_53_3))) (av_br 64 (av_br 52 (av_lq cl_53_4) (av_lq cl_53_5)) (av_br 77 (av_lq cl_53_6) (av_lq cl_53_7))))
set_option maxRecDepth 100000 in
set_option maxHeartbeats 4000000 in
theorem ck_53 : ∀ (pc : Nat) (x : av_E), cf_53 pc = some x → cd_53.lookup pc = some x := by
  have h : ∀ q ∈ cl_53_0 ++ (cl_53_1 ++ (cl_53_2 ++ (cl_53_3 ++ (cl_53_4 ++ (cl_53_5 ++ (cl_53_6 ++ (cl_53_7))))))), cd_53.lookup q.1 = some q.2 := av_ascQ (cd := cd_53) (by decide +kernel)
  obtain ⟨h0, h⟩ := List.forall_mem_append.mp h
  obtain ⟨h1, h⟩ := List.forall_mem_append.mp h
  obtain ⟨h2, h⟩ := List.forall_mem_append.mp h
  obtain ⟨h3, h⟩ := List.forall_mem_append.mp h
  obtain ⟨h4, h⟩ := List.forall_mem_append.mp h
  obtain ⟨h5, h⟩ := List.forall_mem_append.mp h
  obtain ⟨h6, h⟩ := List.forall_mem_append.mp h
  have h7 := h
  exact (av_brP (av_brP (av_brP (av_lqP h0) (av_lqP h1)) (av_brP (av_lqP h2) (av_lqP h3))) (av_brP (av_brP (av_lqP h4) (av_lqP h5)) (av_brP (av_lqP h6) (av_lqP h7))))
def cl_54_0 : List (Nat × av_E) := [(0, av_q (.iconst 0)), (1, av_q (.istore_n 2)), (2, av_q (.iconst 0)), (3, av_q (.istore_n 3)), (4, av_q (.iload_n 3)), (5, av_q (.aload_n 1))]
def cl_54_1 : List (Nat × av_E) := [(6, av_qf (.getfield 116) 1 1 0), (9, av_qa (.if_icmp .ge 40) 49), (12, av_q (.aload_n 1)), (13, av_q (.iload_n 3)), (14, av_q (.bipush 6)), (16, av_qc (.invokevirtual 119) 29 2 0 1)]
def cl_54_2 : List (Nat × av_E) := [(19, av_q (.istore 4)), (21, av_q (.iload 4)), (23, av_qa (.ifCond .lt 20) 43), (26, av_q (.iload 4)), (28, av_q (.bipush 16)), (30, av_qa (.if_icmp .ge 13) 43)]
def cl_54_3 : List (Nat × av_E) := [(33, av_q (.aload_n 0)), (34, av_qf (.getfield 15) 3 5 2), (37, av_q (.iload 4)), (39, av_q (.iconst 1)), (40, av_q (.bastore)), (41, av_q (.iconst 1))]
def cl_54_4 : List (Nat × av_E) := [(42, av_q (.istore_n 2)), (43, av_q (.iinc 3 1)), (46, av_qa (.goto (-42)) 4), (49, av_q (.iload_n 2)), (50, av_qa (.ireturn) 1)]
def cf_54 : Nat → Option av_E := (av_br 16 (av_br 5 (av_lq cl_54_0) (av_lq cl_54_1)) (av_br 30 (av_lq cl_54_2) (av_br 41 (av_lq cl_54_3) (av_lq cl_54_4))))
set_option maxRecDepth 100000 in
set_option maxHeartbeats 4000000 in
theorem ck_54 : ∀ (pc : Nat) (x : av_E), cf_54 pc = some x → cd_54.lookup pc = some x := by
  have h : ∀ q ∈ cl_54_0 ++ (cl_54_1 ++ (cl_54_2 ++ (cl_54_3 ++ (cl_54_4)))), cd_54.lookup q.1 = some q.2 := av_ascQ (cd := cd_54) (by decide +kernel)
  obtain ⟨h0, h⟩ := List.forall_mem_append.mp h
  obtain ⟨h1, h⟩ := List.forall_mem_append.mp h
  obtain ⟨h2, h⟩ := List.forall_mem_append.mp h
  obtain ⟨h3, h⟩ := List.forall_mem_append.mp h
  have h4 := h
  exact (av_brP (av_brP (av_lqP h0) (av_lqP h1)) (av_brP (av_lqP h2) (av_brP (av_lqP h3) (av_lqP h4))))
def cl_55_0 : List (Nat × av_E) := [(0, av_q (.iload_n 1)), (1, av_q (.istore_n 2)), (2, av_q (.iconst 0)), (3, av_q (.istore_n 3)), (4, av_q (.iload_n 3)), (5, av_q (.aload_n 0))]
def cl_55_1 : List (Nat × av_E) := [(6, av_qf (.getfield 122) 0 12 2), (9, av_qf (.getfield 82) 1 3 0), (12, av_qa (.if_icmp .ge 43) 55), (15, av_q (.iload_n 2)), (16, av_qa (.ifCond .lt 18) 34), (19, av_q (.iload_n 2))]
def cl_55_2 : List (Nat × av_E) := [(20, av_q (.aload_n 0)), (21, av_qf (.getfield 122) 0 12 2), (24, av_qf (.getfield 82) 1 3 0), (27, av_qa (.if_icmp .ge 7) 34), (30, av_q (.iload_n 2)), (31, av_qa (.goto 4) 35)]
def cl_55_3 : List (Nat × av_E) := [(34, av_q (.iconst 0)), (35, av_q (.istore_n 2)), (36, av_q (.aload_n 0)), (37, av_q (.iload_n 2)), (38, av_qc (.invokevirtual 89) 2 1 0 0), (41, av_qa (.ifCond .ne 5) 46)]
def cl_55_4 : List (Nat × av_E) := [(44, av_q (.iload_n 2)), (45, av_q (.ireturn)), (46, av_q (.iinc 2 1)), (49, av_q (.iinc 3 1)), (52, av_qa (.goto (-48)) 4), (55, av_q (.iconst (-1)))]
def cl_55_5 : List (Nat × av_E) := [(56, av_q (.ireturn))]
def cf_55 : Nat → Option av_E := (av_br 31 (av_br 5 (av_lq cl_55_0) (av_br 19 (av_lq cl_55_1) (av_lq cl_55_2))) (av_br 41 (av_lq cl_55_3) (av_br 55 (av_lq cl_55_4) (av_lq cl_55_5))))
set_option maxRecDepth 100000 in
set_option maxHeartbeats 4000000 in
theorem ck_55 : ∀ (pc : Nat) (x : av_E), cf_55 pc = some x → cd_55.lookup pc = some x := by
  have h : ∀ q ∈ cl_55_0 ++ (cl_55_1 ++ (cl_55_2 ++ (cl_55_3 ++ (cl_55_4 ++ (cl_55_5))))), cd_55.lookup q.1 = some q.2 := av_ascQ (cd := cd_55) (by decide +kernel)
  obtain ⟨h0, h⟩ := List.forall_mem_append.mp h
  obtain ⟨h1, h⟩ := List.forall_mem_append.mp h
  obtain ⟨h2, h⟩ := List.forall_mem_append.mp h
  obtain ⟨h3, h⟩ := List.forall_mem_append.mp h
  obtain ⟨h4, h⟩ := List.forall_mem_append.mp h
  have h5 := h
  exact (av_brP (av_brP (av_lqP h0) (av_brP (av_lqP h1) (av_lqP h2))) (av_brP (av_lqP h3) (av_brP (av_lqP h4) (av_lqP h5))))
def cl_56_0 : List (Nat × av_E) := [(0, av_q (.aload_n 0)), (1, av_qf (.getfield 25) 3 8 2), (4, av_q (.iconst 0)), (5, av_q (.iconst 0)), (6, av_q (.iastore)), (7, av_q (.aload_n 0))]
def cl_56_1 : List (Nat × av_E) := [(8, av_qf (.getfield 25) 3 8 2), (11, av_q (.iconst 1)), (12, av_q (.iconst 5)), (13, av_q (.iconst (-1))), (14, av_qc (.invokestatic 126) 221 4 2 10), (17, av_q (.iconst 0))]
def cl_56_2 : List (Nat × av_E) := [(18, av_q (.istore_n 1)), (19, av_q (.iload_n 1)), (20, av_q (.aload_n 0)), (21, av_qf (.getfield 49) 3 1 2), (24, av_qf (.getfield 122) 0 12 2), (27, av_qf (.getfield 82) 1 3 0)]
def cl_56_3 : List (Nat × av_E) := [(30, av_qa (.if_icmp .ge 45) 75), (33, av_q (.aload_n 0)), (34, av_qf (.getfield 49) 3 1 2), (37, av_q (.iload_n 1)), (38, av_qc (.invokevirtual 89) 2 1 0 0), (41, av_qa (.ifCond .eq 11) 52)]
def cl_56_4 : List (Nat × av_E) := [(44, av_q (.aload_n 0)), (45, av_q (.iload_n 1)), (46, av_qc (.invokevirtual 129) 57 1 0 3), (49, av_qa (.goto 20) 69), (52, av_q (.aload_n 0)), (53, av_qf (.getfield 25) 3 8 2)]
def cl_56_5 : List (Nat × av_E) := [(56, av_q (.iconst 2)), (57, av_q (.iaload)), (58, av_q (.iconst (-1))), (59, av_qa (.if_icmp .ne 10) 69), (62, av_q (.aload_n 0)), (63, av_qf (.getfield 25) 3 8 2)]
def cl_56_6 : List (Nat × av_E) := [(66, av_q (.iconst 2)), (67, av_q (.iload_n 1)), (68, av_q (.iastore)), (69, av_q (.iinc 1 1)), (72, av_qa (.goto (-53)) 19), (75, av_q (.return_))]
def cf_56 : Nat → Option av_E := (av_br 27 (av_br 7 (av_lq cl_56_0) (av_br 17 (av_lq cl_56_1) (av_lq cl_56_2))) (av_br 53 (av_br 41 (av_lq cl_56_3) (av_lq cl_56_4)) (av_br 63 (av_lq cl_56_5) (av_lq cl_56_6))))
set_option maxRecDepth 100000 in
set_option maxHeartbeats 4000000 in
theorem ck_56 : ∀ (pc : Nat) (x : av_E), cf_56 pc = some x → cd_56.lookup pc = some x := by
  have h : ∀ q ∈ cl_56_0 ++ (cl_56_1 ++ (cl_56_2 ++ (cl_56_3 ++ (cl_56_4 ++ (cl_56_5 ++ (cl_56_6)))))), cd_56.lookup q.1 = some q.2 := av_ascQ (cd := cd_56) (by decide +kernel)
  obtain ⟨h0, h⟩ := List.forall_mem_append.mp h
  obtain ⟨h1, h⟩ := List.forall_mem_append.mp h
  obtain ⟨h2, h⟩ := List.forall_mem_append.mp h
  obtain ⟨h3, h⟩ := List.forall_mem_append.mp h
  obtain ⟨h4, h⟩ := List.forall_mem_append.mp h
  obtain ⟨h5, h⟩ := List.forall_mem_append.mp h
  have h6 := h
  exact (av_brP (av_brP (av_lqP h0) (av_brP (av_lqP h1) (av_lqP h2))) (av_brP (av_brP (av_lqP h3) (av_lqP h4)) (av_brP (av_lqP h5) (av_lqP h6))))
def cl_57_0 : List (Nat × av_E) := [(0, av_q (.aload_n 0)), (1, av_qf (.getfield 25) 3 8 2), (4, av_q (.iconst 0)), (5, av_q (.iaload)), (6, av_qa (.ifCond .ne 7) 13), (9, av_q (.iconst 1))]
def cl_57_1 : List (Nat × av_E) := [(10, av_qa (.goto 4) 14), (13, av_q (.iconst 0)), (14, av_q (.istore_n 2)), (15, av_q (.aload_n 0)), (16, av_qf (.getfield 25) 3 8 2), (19, av_q (.iconst 0))]
def cl_57_2 : List (Nat × av_E) := [(20, av_q (.dup2)), (21, av_q (.iaload)), (22, av_q (.iconst 1)), (23, av_q (.iadd)), (24, av_q (.iastore)), (25, av_q (.iload_n 2))]
def cl_57_3 : List (Nat × av_E) := [(26, av_qa (.ifCond .eq 10) 36), (29, av_q (.aload_n 0)), (30, av_qf (.getfield 25) 3 8 2), (33, av_q (.iconst 1)), (34, av_q (.iload_n 1)), (35, av_q (.iastore))]
def cl_57_4 : List (Nat × av_E) := [(36, av_q (.aload_n 0)), (37, av_qf (.getfield 25) 3 8 2), (40, av_q (.iconst 3)), (41, av_q (.iload_n 2)), (42, av_qa (.ifCond .eq 13) 55), (45, av_q (.aload_n 0))]
def cl_57_5 : List (Nat × av_E) := [(46, av_qf (.getfield 49) 3 1 2), (49, av_qf (.getfield 132) 0 15 0), (52, av_qa (.goto 19) 71), (55, av_q (.aload_n 0)), (56, av_qf (.getfield 25) 3 8 2), (59, av_q (.iconst 3))]
def cl_57_6 : List (Nat × av_E) := [(60, av_q (.iaload)), (61, av_q (.aload_n 0)), (62, av_qf (.getfield 49) 3 1 2), (65, av_qf (.getfield 132) 0 15 0), (68, av_qa (.invokestatic 135) 1002), (71, av_q (.iastore))]
def cl_57_7 : List (Nat × av_E) := [(72, av_q (.aload_n 0)), (73, av_qf (.getfield 25) 3 8 2), (76, av_q (.iconst 4)), (77, av_q (.aload_n 0)), (78, av_qf (.getfield 25) 3 8 2), (81, av_q (.iconst 4))]
def cl_57_8 : List (Nat × av_E) := [(82, av_q (.iaload)), (83, av_q (.aload_n 0)), (84, av_qf (.getfield 49) 3 1 2), (87, av_qf (.getfield 132) 0 15 0), (90, av_qa (.invokestatic 140) 1001), (93, av_q (.iastore))]
def cl_57_9 : List (Nat × av_E) := [(94, av_q (.return_))]
def cf_57 : Nat → Option av_E := (av_br 45 (av_br 19 (av_br 9 (av_lq cl_57_0) (av_lq cl_57_1)) (av_br 25 (av_lq cl_57_2) (av_br 35 (av_lq cl_57_3) (av_lq cl_57_4)))) (av_br 71 (av_br 59 (av_lq cl_57_5) (av_lq cl_57_6)) (av_br 81 (av_lq cl_57_7) (av_br 93 (av_lq cl_57_8) (av_lq cl_57_9)))))
set_option maxRecDepth 100000 in
set_option maxHeartbeats 4000000 in
theorem ck_57 : ∀ (pc : Nat) (x : av_E), cf_57 pc = some x → cd_57.lookup pc = some x := by
  have h : ∀ q ∈ cl_57_0 ++ (cl_57_1 ++ (cl_57_2 ++ (cl_57_3 ++ (cl_57_4 ++ (cl_57_5 ++ (cl_57_6 ++ (cl_57_7 ++ (cl_57_8 ++ (cl_57_9))))))))), cd_57.lookup q.1 = some q.2 := av_ascQ (cd := cd_57) (by decide +kernel)
  obtain ⟨h0, h⟩ := List.forall_mem_append.mp h
  obtain ⟨h1, h⟩ := List.forall_mem_append.mp h
  obtain ⟨h2, h⟩ := List.forall_mem_append.mp h
  obtain ⟨h3, h⟩ := List.forall_mem_append.mp h
  obtain ⟨h4, h⟩ := List.forall_mem_append.mp h
  obtain ⟨h5, h⟩ := List.forall_mem_append.mp h
  obtain ⟨h6, h⟩ := List.forall_mem_append.mp h
  obtain ⟨h7, h⟩ := List.forall_mem_append.mp h
  obtain ⟨h8, h⟩ := List.forall_mem_append.mp h
  have h9 := h
  exact (av_brP (av_brP (av_brP (av_lqP h0) (av_lqP h1)) (av_brP (av_lqP h2) (av_brP (av_lqP h3) (av_lqP h4)))) (av_brP (av_brP (av_lqP h5) (av_lqP h6)) (av_brP (av_lqP h7) (av_brP (av_lqP h8) (av_lqP h9)))))
def cl_58_0 : List (Nat × av_E) := [(0, av_q (.aload_n 0)), (1, av_qf (.getfield 49) 3 1 2), (4, av_qf (.getfield 122) 0 12 2), (7, av_q (.astore_n 1)), (8, av_q (.iconst 0)), (9, av_q (.istore_n 2))]
def cl_58_1 : List (Nat × av_E) := [(10, av_q (.iload_n 2)), (11, av_q (.aload_n 1)), (12, av_qf (.getfield 82) 1 3 0), (15, av_qa (.if_icmp .ge 30) 45), (18, av_q (.iload_n 2)), (19, av_q (.sipush 1024))]
def cl_58_2 : List (Nat × av_E) := [(22, av_qa (.if_icmp .ge 23) 45), (25, av_q (.aload_n 0)), (26, av_qf (.getfield 19) 3 6 2), (29, av_q (.iload_n 2)), (30, av_q (.aload_n 0)), (31, av_qf (.getfield 49) 3 1 2)]
def cl_58_3 : List (Nat × av_E) := [(34, av_q (.iload_n 2)), (35, av_qc (.invokevirtual 89) 2 1 0 0), (38, av_q (.bastore)), (39, av_q (.iinc 2 1)), (42, av_qa (.goto (-32)) 10), (45, av_q (.iconst 0))]
def cl_58_4 : List (Nat × av_E) := [(46, av_q (.istore_n 2)), (47, av_q (.iconst 1)), (48, av_q (.istore_n 3)), (49, av_q (.iconst 1)), (50, av_q (.istore 4)), (52, av_q (.iconst 0))]
def cl_58_5 : List (Nat × av_E) := [(53, av_q (.istore 5)), (55, av_q (.iload 5)), (57, av_q (.aload_n 1)), (58, av_qf (.getfield 116) 1 1 0), (61, av_q (.iconst 4)), (62, av_q (.imul))]
def cl_58_6 : List (Nat × av_E) := [(63, av_qa (.if_icmp .ge 61) 124), (66, av_q (.aload_n 1)), (67, av_q (.iload 5)), (69, av_q (.iconst 4)), (70, av_q (.idiv)), (71, av_q (.bipush 15))]
def cl_58_7 : List (Nat × av_E) := [(73, av_q (.iload 5)), (75, av_q (.iconst 4)), (76, av_q (.irem)), (77, av_q (.iadd)), (78, av_qc (.invokevirtual 119) 29 2 0 1), (81, av_q (.istore 6))]
def cl_58_8 : List (Nat × av_E) := [(83, av_q (.iload 6)), (85, av_qa (.ifCond .le 33) 118), (88, av_q (.iload_n 2)), (89, av_q (.aload_n 0)), (90, av_q (.iload 4)), (92, av_q (.iload 6))]
def cl_58_9 : List (Nat × av_E) := [(94, av_qc (.invokevirtual 143) 59 2 0 3), (97, av_qa (.ifCond .eq 7) 104), (100, av_q (.iload_n 3)), (101, av_qa (.goto 4) 105), (104, av_q (.iconst 0)), (105, av_q (.ior))]
def cl_58_10 : List (Nat × av_E) := [(106, av_q (.istore_n 2)), (107, av_q (.iload_n 3)), (108, av_q (.iconst 1)), (109, av_q (.ishl)), (110, av_q (.istore_n 3)), (111, av_q (.iload 4))]
def cl_58_11 : List (Nat × av_E) := [(113, av_q (.iload 6)), (115, av_q (.imul)), (116, av_q (.istore 4)), (118, av_q (.iinc 5 1)), (121, av_qa (.goto (-66)) 55), (124, av_q (.iload_n 2))]
def cl_58_12 : List (Nat × av_E) := [(125, av_q (.ireturn))]
def cf_58 : Nat → Option av_E := (av_br 62 (av_br 31 (av_br 9 (av_lq cl_58_0) (av_br 19 (av_lq cl_58_1) (av_lq cl_58_2))) (av_br 45 (av_lq cl_58_3) (av_br 52 (av_lq cl_58_4) (av_lq cl_58_5)))) (av_br 92 (av_br 71 (av_lq cl_58_6) (av_br 81 (av_lq cl_58_7) (av_lq cl_58_8))) (av_br 111 (av_br 105 (av_lq cl_58_9) (av_lq cl_58_10)) (av_br 124 (av_lq cl_58_11) (av_lq cl_58_12)))))
set_option maxRecDepth 100000 in
set_option maxHeartbeats 4000000 in
theorem ck_58 : ∀ (pc : Nat) (x : av_E), cf_58 pc = some x → cd_58.lookup pc = some x := by
  have h : ∀ q ∈ cl_58_0 ++ (cl_58_1 ++ (cl_58_2 ++ (cl_58_3 ++ (cl_58_4 ++ (cl_58_5 ++ (cl_58_6 ++ (cl_58_7 ++ (cl_58_8 ++ (cl_58_9 ++ (cl_58_10 ++ (cl_58_11 ++ (cl_58_12)))))))))))), cd_58.lookup q.1 = some q.2 := av_ascQ (cd := cd_58) (by decide +kernel)
  obtain ⟨h0, h⟩ := List.forall_mem_append.mp h
  obtain ⟨h1, h⟩ := List.forall_mem_append.mp h
  obtain ⟨h2, h⟩ := List.forall_mem_append.mp h
  obtain ⟨h3, h⟩ := List.forall_mem_append.mp h
  obtain ⟨h4, h⟩ := List.forall_mem_append.mp h
  obtain ⟨h5, h⟩ := List.forall_mem_append.mp h
  obtain ⟨h6, h⟩ := List.forall_mem_append.mp h
  obtain ⟨h7, h⟩ := List.forall_mem_append.mp h
  obtain ⟨h8, h⟩ := List.forall_mem_append.mp h
  obtain ⟨h9, h⟩ := List.forall_mem_append.mp h
  obtain ⟨h10, h⟩ := List.forall_mem_append.mp h
  obtain ⟨h11, h⟩ := List.forall_mem_append.mp h
  have h12 := h
  exact (av_brP (av_brP (av_brP (av_lqP h0) (av_brP (av_lqP h1) (av_lqP h2))) (av_brP (av_lqP h3) (av_brP (av_lqP h4) (av_lqP h5)))) (av_brP (av_brP (av_lqP h6) (av_brP (av_lqP h7) (av_lqP h8))) (av_brP (av_brP (av_lqP h9) (av_lqP h10)) (av_brP (av_lqP h11) (av_lqP h12)))))
def cl_59_0 : List (Nat × av_E) := [(0, av_q (.iload_n 1)), (1, av_q (.iconst 1)), (2, av_qa (.if_icmp .lt 8) 10), (5, av_q (.iload_n 2)), (6, av_q (.iconst 1)), (7, av_qa (.if_icmp .ge 5) 12)]
def cl_59_1 : List (Nat × av_E) := [(10, av_q (.iconst 0)), (11, av_qa (.ireturn) 1), (12, av_q (.iload_n 1)), (13, av_q (.istore_n 3)), (14, av_q (.iload_n 3)), (15, av_q (.aload_n 0))]
def cl_59_2 : List (Nat × av_E) := [(16, av_qf (.getfield 49) 3 1 2), (19, av_qf (.getfield 122) 0 12 2), (22, av_qf (.getfield 82) 1 3 0), (25, av_qa (.if_icmp .ge 43) 68), (28, av_q (.iload_n 3)), (29, av_q (.sipush 1024))]
def cl_59_3 : List (Nat × av_E) := [(32, av_qa (.if_icmp .ge 36) 68), (35, av_q (.iload_n 3)), (36, av_q (.iload_n 1)), (37, av_q (.idiv)), (38, av_q (.iload_n 2)), (39, av_q (.irem))]
def cl_59_4 : List (Nat × av_E) := [(40, av_qa (.ifCond .eq 22) 62), (43, av_q (.aload_n 0)), (44, av_qf (.getfield 19) 3 6 2), (47, av_q (.iload_n 3)), (48, av_q (.baload)), (49, av_q (.aload_n 0))]
def cl_59_5 : List (Nat × av_E) := [(50, av_qf (.getfield 19) 3 6 2), (53, av_q (.iload_n 3)), (54, av_q (.iload_n 1)), (55, av_q (.isub)), (56, av_q (.baload)), (57, av_qa (.if_icmp .eq 5) 62)]
def cl_59_6 : List (Nat × av_E) := [(60, av_q (.iconst 1)), (61, av_qa (.ireturn) 1), (62, av_q (.iinc 3 1)), (65, av_qa (.goto (-51)) 14), (68, av_q (.iconst 0)), (69, av_qa (.ireturn) 1)]
def cf_59 : Nat → Option av_E := (av_br 29 (av_br 7 (av_lq cl_59_0) (av_br 15 (av_lq cl_59_1) (av_lq cl_59_2))) (av_br 49 (av_br 39 (av_lq cl_59_3) (av_lq cl_59_4)) (av_br 57 (av_lq cl_59_5) (av_lq cl_59_6))))
set_option maxRecDepth 100000 in
set_option maxHeartbeats 4000000 in
theorem ck_59 : ∀ (pc : Nat) (x : av_E), cf_59 pc = some x → cd_59.lookup pc = some x := by
  have h : ∀ q ∈ cl_59_0 ++ (cl_59_1 ++ (cl_59_2 ++ (cl_59_3 ++ (cl_59_4 ++ (cl_59_5 ++ (cl_59_6)))))), cd_59.lookup q.1 = some q.2 := av_ascQ (cd := cd_59) (by decide +kernel)
  obtain ⟨h0, h⟩ := List.forall_mem_append.mp h
  obtain ⟨h1, h⟩ := List.forall_mem_append.mp h
  obtain ⟨h2, h⟩ := List.forall_mem_append.mp h
  obtain ⟨h3, h⟩ := List.forall_mem_append.mp h
  obtain ⟨h4, h⟩ := List.forall_mem_append.mp h
  obtain ⟨h5, h⟩ := List.forall_mem_append.mp h
  have h6 := h
  exact (av_brP (av_brP (av_lqP h0) (av_brP (av_lqP h1) (av_lqP h2))) (av_brP (av_brP (av_lqP h3) (av_lqP h4)) (av_brP (av_lqP h5) (av_lqP h6))))
def cl_60_0 : List (Nat × av_E) := [(0, av_q (.iconst 0)), (1, av_q (.istore_n 1)), (2, av_q (.iconst 0)), (3, av_q (.istore_n 2)), (4, av_q (.iload_n 2)), (5, av_q (.aload_n 0))]
def cl_60_1 : List (Nat × av_E) := [(6, av_qf (.getfield 49) 3 1 2), (9, av_qf (.getfield 122) 0 12 2), (12, av_qf (.getfield 82) 1 3 0), (15, av_qa (.if_icmp .ge 25) 40), (18, av_q (.iload_n 1)), (19, av_q (.aload_n 0))]
def cl_60_2 : List (Nat × av_E) := [(20, av_q (.iload_n 2)), (21, av_qc (.invokevirtual 147) 62 1 0 3), (24, av_qa (.ifCond .eq 7) 31), (27, av_q (.iconst 1)), (28, av_qa (.goto 4) 32), (31, av_q (.iconst 0))]
def cl_60_3 : List (Nat × av_E) := [(32, av_q (.iadd)), (33, av_q (.istore_n 1)), (34, av_q (.iinc 2 1)), (37, av_qa (.goto (-33)) 4), (40, av_q (.iload_n 1)), (41, av_q (.ireturn))]
def cf_60 : Nat → Option av_E := (av_br 19 (av_br 5 (av_lq cl_60_0) (av_lq cl_60_1)) (av_br 31 (av_lq cl_60_2) (av_lq cl_60_3)))
set_option maxRecDepth 100000 in
set_option maxHeartbeats 4000000 in
theorem ck_60 : ∀ (pc : Nat) (x : av_E), cf_60 pc = some x → cd_60.lookup pc = some x := by
  have h : ∀ q ∈ cl_60_0 ++ (cl_60_1 ++ (cl_60_2 ++ (cl_60_3))), cd_60.lookup q.1 = some q.2 := av_ascQ (cd := cd_60) (by decide +kernel)
  obtain ⟨h0, h⟩ := List.forall_mem_append.mp h
  obtain ⟨h1, h⟩ := List.forall_mem_append.mp h
  obtain ⟨h2, h⟩ := List.forall_mem_append.mp h
  have h3 := h
  exact (av_brP (av_brP (av_lqP h0) (av_lqP h1)) (av_brP (av_lqP h2) (av_lqP h3)))
def cl_61_0 : List (Nat × av_E) := [(0, av_q (.iconst 0)), (1, av_q (.istore_n 1)), (2, av_q (.iload_n 1)), (3, av_q (.aload_n 0)), (4, av_qf (.getfield 49) 3 1 2), (7, av_qf (.getfield 122) 0 12 2)]
def cl_61_1 : List (Nat × av_E) := [(10, av_qf (.getfield 82) 1 3 0), (13, av_qa (.if_icmp .ge 19) 32), (16, av_q (.aload_n 0)), (17, av_q (.iload_n 1)), (18, av_qc (.invokevirtual 147) 62 1 0 3), (21, av_qa (.ifCond .eq 5) 26)]
def cl_61_2 : List (Nat × av_E) := [(24, av_q (.iload_n 1)), (25, av_q (.ireturn)), (26, av_q (.iinc 1 1)), (29, av_qa (.goto (-27)) 2), (32, av_q (.iconst (-1))), (33, av_q (.ireturn))]
def cf_61 : Nat → Option av_E := (av_br 7 (av_lq cl_61_0) (av_br 21 (av_lq cl_61_1) (av_lq cl_61_2)))
set_option maxRecDepth 100000 in
set_option maxHeartbeats 4000000 in
theorem ck_61 : ∀ (pc : Nat) (x : av_E), cf_61 pc = some x → cd_61.lookup pc = some x := by
  have h : ∀ q ∈ cl_61_0 ++ (cl_61_1 ++ (cl_61_2)), cd_61.lookup q.1 = some q.2 := av_ascQ (cd := cd_61) (by decide +kernel)
  obtain ⟨h0, h⟩ := List.forall_mem_append.mp h
  obtain ⟨h1, h⟩ := List.forall_mem_append.mp h
  have h2 := h
  exact (av_brP (av_lqP h0) (av_brP (av_lqP h1) (av_lqP h2)))
def cl_62_0 : List (Nat × av_E) := [(0, av_q (.aload_n 0)), (1, av_qf (.getfield 49) 3 1 2), (4, av_q (.iload_n 1)), (5, av_qc (.invokevirtual 89) 2 1 0 0), (8, av_q (.pop)), (9, av_q (.aload_n 0))]
def cl_62_1 : List (Nat × av_E) := [(10, av_qf (.getfield 53) 3 2 2), (13, av_q (.iload_n 1)), (14, av_qc (.invokevirtual 89) 2 1 0 0), (17, av_q (.pop)), (18, av_q (.aload_n 0)), (19, av_qf (.getfield 49) 3 1 2)]
def cl_62_2 : List (Nat × av_E) := [(22, av_qf (.getfield 132) 0 15 0), (25, av_q (.aload_n 0)), (26, av_qf (.getfield 53) 3 2 2), (29, av_qf (.getfield 132) 0 15 0), (32, av_qa (.if_icmp .eq 5) 37), (35, av_q (.iconst 1))]
def cl_62_3 : List (Nat × av_E) := [(36, av_qa (.ireturn) 1), (37, av_q (.iconst 0)), (38, av_q (.istore_n 2)), (39, av_q (.iload_n 2)), (40, av_q (.iconst 5)), (41, av_qa (.if_icmp .ge 40) 81)]
def cl_62_4 : List (Nat × av_E) := [(44, av_q (.aload_n 0)), (45, av_qf (.getfield 49) 3 1 2), (48, av_qc (.invokevirtual 150) 3 0 0 0), (51, av_qa (.ifCond .eq 30) 81), (54, av_q (.aload_n 0)), (55, av_qf (.getfield 49) 3 1 2)]
def cl_62_5 : List (Nat × av_E) := [(58, av_q (.iload_n 2)), (59, av_qc (.invokevirtual 154) 17 1 0 0), (62, av_q (.aload_n 0)), (63, av_qf (.getfield 53) 3 2 2), (66, av_q (.iload_n 2)), (67, av_qc (.invokevirtual 154) 17 1 0 0)]
def cl_62_6 : List (Nat × av_E) := [(70, av_qa (.if_icmp .eq 5) 75), (73, av_q (.iconst 1)), (74, av_qa (.ireturn) 1), (75, av_q (.iinc 2 1)), (78, av_qa (.goto (-39)) 39), (81, av_q (.iconst 0))]
def cl_62_7 : List (Nat × av_E) := [(82, av_qa (.ireturn) 1)]
def cf_62 : Nat → Option av_E := (av_br 41 (av_br 19 (av_br 9 (av_lq cl_62_0) (av_lq cl_62_1)) (av_br 35 (av_lq cl_62_2) (av_lq cl_62_3))) (av_br 67 (av_br 55 (av_lq cl_62_4) (av_lq cl_62_5)) (av_br 81 (av_lq cl_62_6) (av_lq cl_62_7))))
set_option maxRecDepth 100000 in
set_option maxHeartbeats 4000000 in
theorem ck_62 : ∀ (pc : Nat) (x : av_E), cf_62 pc = some x → cd_62.lookup pc = some x := by
  have h : ∀ q ∈ cl_62_0 ++ (cl_62_1 ++ (cl_62_2 ++ (cl_62_3 ++ (cl_62_4 ++ (cl_62_5 ++ (cl_62_6 ++ (cl_62_7))))))), cd_62.lookup q.1 = some q.2 := av_ascQ (cd := cd_62) (by decide +kernel)
  obtain ⟨h0, h⟩ := List.forall_mem_append.mp h
  obtain ⟨h1, h⟩ := List.forall_mem_append.mp h
  obtain ⟨h2, h⟩ := List.forall_mem_append.mp h
  obtain ⟨h3, h⟩ := List.forall_mem_append.mp h
  obtain ⟨h4, h⟩ := List.forall_mem_append.mp h
  obtain ⟨h5, h⟩ := List.forall_mem_append.mp h
  obtain ⟨h6, h⟩ := List.forall_mem_append.mp h
  have h7 := h
  exact (av_brP (av_brP (av_brP (av_lqP h0) (av_lqP h1)) (av_brP (av_lqP h2) (av_lqP h3))) (av_brP (av_brP (av_lqP h4) (av_lqP h5)) (av_brP (av_lqP h6) (av_lqP h7))))
def cl_63_0 : List (Nat × av_E) := [(0, av_q (.aload_n 0)), (1, av_qf (.getfield 28) 3 9 0), (4, av_q (.istore 4)), (6, av_q (.iconst 0)), (7, av_q (.istore 5)), (9, av_q (.iload 5))]
def cl_63_1 : List (Nat × av_E) := [(11, av_q (.aload_n 0)), (12, av_qf (.getfield 40) 3 0 2), (15, av_qf (.getfield 158) 5 4 0), (18, av_qa (.if_icmp .ge 125) 143), (21, av_q (.aload_n 0)), (22, av_qf (.getfield 40) 3 0 2)]
def cl_63_2 : List (Nat × av_E) := [(25, av_q (.iload 4)), (27, av_qc (.invokevirtual 93) 70 1 0 5), (30, av_qa (.ifCond .eq 8) 38), (33, av_q (.iload 4)), (35, av_qa (.goto 4) 39), (38, av_q (.iconst 0))]
def cl_63_3 : List (Nat × av_E) := [(39, av_q (.istore 4)), (41, av_q (.aload_n 0)), (42, av_qf (.getfield 40) 3 0 2), (45, av_q (.aload_n 0)), (46, av_qf (.getfield 22) 3 7 2), (49, av_q (.iload 4))]
def cl_63_4 : List (Nat × av_E) := [(51, av_q (.iload_n 3)), (52, av_qc (.invokevirtual 161) 75 3 0 5), (55, av_q (.aload_n 0)), (56, av_qf (.getfield 11) 3 4 2), (59, av_q (.sipush 128)), (62, av_q (.sipush 144))]
def cl_63_5 : List (Nat × av_E) := [(65, av_q (.iconst 0)), (66, av_qc (.invokestatic 126) 221 4 2 10), (69, av_q (.aload_n 0)), (70, av_q (.aload_n 1)), (71, av_q (.iload_n 2)), (72, av_q (.aload_n 0))]
def cl_63_6 : List (Nat × av_E) := [(73, av_qf (.getfield 22) 3 7 2), (76, av_q (.sipush 128)), (79, av_qc (.invokevirtual 100) 52 4 0 3), (82, av_q (.aload_n 0)), (83, av_qf (.getfield 49) 3 1 2), (86, av_q (.aload_n 1))]
def cl_63_7 : List (Nat × av_E) := [(87, av_q (.aload_n 0)), (88, av_qf (.getfield 22) 3 7 2), (91, av_q (.aload_n 0)), (92, av_qf (.getfield 11) 3 4 2), (95, av_q (.sipush 128)), (98, av_qc (.invokevirtual 64) 1 4 0 0)]
def cl_63_8 : List (Nat × av_E) := [(101, av_q (.aload_n 0)), (102, av_qf (.getfield 49) 3 1 2), (105, av_q (.aload_n 0)), (106, av_qf (.getfield 32) 3 10 0), (109, av_qc (.invokestatic 108) 55 2 2 3), (112, av_q (.istore 6))]
def cl_63_9 : List (Nat × av_E) := [(114, av_q (.iload 6)), (116, av_q (.iconst (-1))), (117, av_qa (.if_icmp .eq 17) 134), (120, av_q (.aload_n 0)), (121, av_q (.iload 4)), (123, av_qf (.putfield 28) 3 9 0)]
def cl_63_10 : List (Nat × av_E) := [(126, av_q (.aload_n 0)), (127, av_q (.iload 6)), (129, av_qf (.putfield 32) 3 10 0), (132, av_q (.iconst 0)), (133, av_qa (.ireturn) 1), (134, av_q (.iinc 4 1))]
def cl_63_11 : List (Nat × av_E) := [(137, av_q (.iinc 5 1)), (140, av_qa (.goto (-131)) 9), (143, av_q (.iconst 1)), (144, av_qa (.ireturn) 1)]
def cf_63 : Nat → Option av_E := (av_br 72 (av_br 38 (av_br 9 (av_lq cl_63_0) (av_br 22 (av_lq cl_63_1) (av_lq cl_63_2))) (av_br 49 (av_lq cl_63_3) (av_br 62 (av_lq cl_63_4) (av_lq cl_63_5)))) (av_br 112 (av_br 86 (av_lq cl_63_6) (av_br 98 (av_lq cl_63_7) (av_lq cl_63_8))) (av_br 123 (av_lq cl_63_9) (av_br 134 (av_lq cl_63_10) (av_lq cl_63_11)))))
set_option maxRecDepth 100000 in
set_option maxHeartbeats 4000000 in
theorem ck_63 : ∀ (pc : Nat) (x : av_E), cf_63 pc = some x → cd_63.lookup pc = some x := by
  have h : ∀ q ∈ cl_63_0 ++ (cl_63_1 ++ (cl_63_2 ++ (cl_63_3 ++ (cl_63_4 ++ (cl_63_5 ++ (cl_63_6 ++ (cl_63_7 ++ (cl_63_8 ++ (cl_63_9 ++ (cl_63_10 ++ (cl_63_11))))))))))), cd_63.lookup q.1 = some q.2 := av_ascQ (cd := cd_63) (by decide +kernel)
  obtain ⟨h0, h⟩ := List.forall_mem_append.mp h
  obtain ⟨h1, h⟩ := List.forall_mem_append.mp h
  obtain ⟨h2, h⟩ := List.forall_mem_append.mp h
  obtain ⟨h3, h⟩ := List.forall_mem_append.mp h
  obtain ⟨h4, h⟩ := List.forall_mem_append.mp h
  obtain ⟨h5, h⟩ := List.forall_mem_append.mp h
  obtain ⟨h6, h⟩ := List.forall_mem_append.mp h
  obtain ⟨h7, h⟩ := List.forall_mem_append.mp h
  obtain ⟨h8, h⟩ := List.forall_mem_append.mp h
  obtain ⟨h9, h⟩ := List.forall_mem_append.mp h
  obtain ⟨h10, h⟩ := List.forall_mem_append.mp h
  have h11 := h
  exact (av_brP (av_brP (av_brP (av_lqP h0) (av_brP (av_lqP h1) (av_lqP h2))) (av_brP (av_lqP h3) (av_brP (av_lqP h4) (av_lqP h5)))) (av_brP (av_brP (av_lqP h6) (av_brP (av_lqP h7) (av_lqP h8))) (av_brP (av_lqP h9) (av_brP (av_lqP h10) (av_lqP h11)))))
def cl_65_0 : List (Nat × av_E) := [(0, av_q (.aload_n 0)), (1, av_qf (.getfield 9) 4 1 2), (4, av_q (.bipush (-2))), (6, av_qc (.invokestatic 19) 220 2 2 10), (9, av_q (.iconst 0)), (10, av_q (.istore_n 2))]
def cl_65_1 : List (Nat × av_E) := [(11, av_q (.iconst 0)), (12, av_q (.istore_n 3)), (13, av_q (.iload_n 3)), (14, av_q (.bipush 20)), (16, av_qa (.if_icmp .gt 42) 58), (19, av_q (.aload_n 0))]
def cl_65_2 : List (Nat × av_E) := [(20, av_qf (.getfield 15) 4 0 2), (23, av_qc (.invokevirtual 25) 84 0 0 6), (26, av_qa (.ifCond .eq 32) 58), (29, av_q (.iload_n 3)), (30, av_q (.bipush 20)), (32, av_qa (.if_icmp .ne 13) 45)]
def cl_65_3 : List (Nat × av_E) := [(35, av_q (.aload_n 0)), (36, av_qf (.getfield 15) 4 0 2), (39, av_qc (.invokevirtual 31) 85 0 0 6), (42, av_qa (.goto 10) 52), (45, av_q (.aload_n 0)), (46, av_qc (.invokevirtual 34) 66 0 0 4)]
def cl_65_4 : List (Nat × av_E) := [(49, av_q (.iinc 2 1)), (52, av_q (.iinc 3 1)), (55, av_qa (.goto (-42)) 13), (58, av_q (.iload_n 2)), (59, av_q (.iload_n 1)), (60, av_qa (.if_icmp .ge 10) 70)]
def cl_65_5 : List (Nat × av_E) := [(63, av_q (.aload_n 0)), (64, av_qf (.getfield 15) 4 0 2), (67, av_qc (.invokevirtual 31) 85 0 0 6), (70, av_q (.aload_n 0)), (71, av_qf (.getfield 9) 4 1 2), (74, av_q (.bipush 13))]
def cl_65_6 : List (Nat × av_E) := [(76, av_q (.iload_n 2)), (77, av_q (.iastore)), (78, av_q (.aload_n 0)), (79, av_qf (.getfield 15) 4 0 2), (82, av_qf (.getfield 37) 6 6 0), (85, av_q (.iconst (-1)))]
def cl_65_7 : List (Nat × av_E) := [(86, av_qa (.if_icmp .ne 7) 93), (89, av_q (.iconst 1)), (90, av_qa (.goto 4) 94), (93, av_q (.iconst 0)), (94, av_qa (.ireturn) 1)]
def cf_65 : Nat → Option av_E := (av_br 46 (av_br 19 (av_br 10 (av_lq cl_65_0) (av_lq cl_65_1)) (av_br 32 (av_lq cl_65_2) (av_lq cl_65_3))) (av_br 74 (av_br 60 (av_lq cl_65_4) (av_lq cl_65_5)) (av_br 85 (av_lq cl_65_6) (av_lq cl_65_7))))
set_option maxRecDepth 100000 in
set_option maxHeartbeats 4000000 in
theorem ck_65 : ∀ (pc : Nat) (x : av_E), cf_65 pc = some x → cd_65.lookup pc = some x := by
  have h : ∀ q ∈ cl_65_0 ++ (cl_65_1 ++ (cl_65_2 ++ (cl_65_3 ++ (cl_65_4 ++ (cl_65_5 ++ (cl_65_6 ++ (cl_65_7))))))), cd_65.lookup q.1 = some q.2 := av_ascQ (cd := cd_65) (by decide +kernel)
  obtain ⟨h0, h⟩ := List.forall_mem_append.mp h
  obtain ⟨h1, h⟩ := List.forall_mem_append.mp h
  obtain ⟨h2, h⟩ := List.forall_mem_append.mp h
  obtain ⟨h3, h⟩ := List.forall_mem_append.mp h
  obtain ⟨h4, h⟩ := List.forall_mem_append.mp h
  obtain ⟨h5, h⟩ := List.forall_mem_append.mp h
  obtain ⟨h6, h⟩ := List.forall_mem_append.mp h
  have h7 := h
  exact (av_brP (av_brP (av_brP (av_lqP h0) (av_lqP h1)) (av_brP (av_lqP h2) (av_lqP h3))) (av_brP (av_brP (av_lqP h4) (av_lqP h5)) (av_brP (av_lqP h6) (av_lqP h7))))
def cl_66_0 : List (Nat × av_E) := [(0, av_q (.aload_n 0)), (1, av_qf (.getfield 15) 4 0 2), (4, av_qs (.ldc 41) 12), (6, av_qc (.invokevirtual 43) 87 1 0 6), (9, av_qw (.tableswitch 257 0 10 #[59, 66, 84, 102, 120, 139, 160, 181, 200, 219, 238]) 59), (68, av_q (.aload_n 0))]
def cl_66_1 : List (Nat × av_E) := [(69, av_qc (.invokevirtual 47) 67 0 0 4), (72, av_qa (.goto 194) 266), (75, av_q (.aload_n 0)), (76, av_qf (.getfield 9) 4 1 2), (79, av_q (.iconst 3)), (80, av_q (.aload_n 0))]
def cl_66_2 : List (Nat × av_E) := [(81, av_qf (.getfield 15) 4 0 2), (84, av_qs (.ldc 50) 14), (86, av_qc (.invokevirtual 43) 87 1 0 6), (89, av_q (.iastore)), (90, av_qa (.goto 176) 266), (93, av_q (.aload_n 0))]
def cl_66_3 : List (Nat × av_E) := [(94, av_qf (.getfield 9) 4 1 2), (97, av_q (.iconst 4)), (98, av_q (.aload_n 0)), (99, av_qf (.getfield 15) 4 0 2), (102, av_qs (.ldc 50) 14), (104, av_qc (.invokevirtual 43) 87 1 0 6)]
def cl_66_4 : List (Nat × av_E) := [(107, av_q (.iastore)), (108, av_qa (.goto 158) 266), (111, av_q (.aload_n 0)), (112, av_qf (.getfield 9) 4 1 2), (115, av_q (.iconst 5)), (116, av_q (.aload_n 0))]
def cl_66_5 : List (Nat × av_E) := [(117, av_qf (.getfield 15) 4 0 2), (120, av_qs (.ldc 50) 14), (122, av_qc (.invokevirtual 43) 87 1 0 6), (125, av_q (.iastore)), (126, av_qa (.goto 140) 266), (129, av_q (.aload_n 0))]
def cl_66_6 : List (Nat × av_E) := [(130, av_qf (.getfield 9) 4 1 2), (133, av_q (.bipush 6)), (135, av_q (.aload_n 0)), (136, av_qf (.getfield 15) 4 0 2), (139, av_qs (.ldc 52) 15), (141, av_qc (.invokevirtual 43) 87 1 0 6)]
def cl_66_7 : List (Nat × av_E) := [(144, av_q (.iastore)), (145, av_qa (.goto 121) 266), (148, av_q (.aload_n 0)), (149, av_qf (.getfield 9) 4 1 2), (152, av_q (.bipush 7)), (154, av_q (.aload_n 0))]
def cl_66_8 : List (Nat × av_E) := [(155, av_qf (.getfield 15) 4 0 2), (158, av_q (.iconst 0)), (159, av_q (.sipush 999)), (162, av_qc (.invokevirtual 54) 92 2 0 6), (165, av_q (.iastore)), (166, av_qa (.goto 100) 266)]
def cl_66_9 : List (Nat × av_E) := [(169, av_q (.aload_n 0)), (170, av_qf (.getfield 9) 4 1 2), (173, av_q (.bipush 8)), (175, av_q (.aload_n 0)), (176, av_qf (.getfield 15) 4 0 2), (179, av_q (.iconst 0))]
def cl_66_10 : List (Nat × av_E) := [(180, av_q (.sipush 999)), (183, av_qc (.invokevirtual 54) 92 2 0 6), (186, av_q (.iastore)), (187, av_qa (.goto 79) 266), (190, av_q (.aload_n 0)), (191, av_qf (.getfield 9) 4 1 2)]
def cl_66_11 : List (Nat × av_E) := [(194, av_q (.bipush 9)), (196, av_q (.aload_n 0)), (197, av_qf (.getfield 15) 4 0 2), (200, av_qs (.ldc 58) 16), (202, av_qc (.invokevirtual 43) 87 1 0 6), (205, av_q (.iastore))]
def cl_66_12 : List (Nat × av_E) := [(206, av_qa (.goto 60) 266), (209, av_q (.aload_n 0)), (210, av_qf (.getfield 9) 4 1 2), (213, av_q (.bipush 10)), (215, av_q (.aload_n 0)), (216, av_qf (.getfield 15) 4 0 2)]
def cl_66_13 : List (Nat × av_E) := [(219, av_qs (.ldc 60) 17), (221, av_qc (.invokevirtual 43) 87 1 0 6), (224, av_q (.iastore)), (225, av_qa (.goto 41) 266), (228, av_q (.aload_n 0)), (229, av_qf (.getfield 9) 4 1 2)]
def cl_66_14 : List (Nat × av_E) := [(232, av_q (.bipush 11)), (234, av_q (.aload_n 0)), (235, av_qf (.getfield 15) 4 0 2), (238, av_qs (.ldc 62) 18), (240, av_qc (.invokevirtual 43) 87 1 0 6), (243, av_q (.iastore))]
def cl_66_15 : List (Nat × av_E) := [(244, av_qa (.goto 22) 266), (247, av_q (.aload_n 0)), (248, av_qf (.getfield 9) 4 1 2), (251, av_q (.bipush 12)), (253, av_q (.aload_n 0)), (254, av_qf (.getfield 15) 4 0 2)]
def cl_66_16 : List (Nat × av_E) := [(257, av_qs (.ldc 64) 19), (259, av_qc (.invokevirtual 43) 87 1 0 6), (262, av_q (.iastore)), (263, av_qa (.goto 3) 266), (266, av_q (.aload_n 0)), (267, av_qf (.getfield 15) 4 0 2)]
def cl_66_17 : List (Nat × av_E) := [(270, av_qc (.invokevirtual 66) 90 0 0 6), (273, av_q (.return_))]
def cf_66 : Nat → Option av_E := (av_br 166 (av_br 104 (av_br 80 (av_br 68 (av_lq cl_66_0) (av_lq cl_66_1)) (av_br 93 (av_lq cl_66_2) (av_lq cl_66_3))) (av_br 129 (av_br 116 (av_lq cl_66_4) (av_lq cl_66_5)) (av_br 141 (av_lq cl_66_6) (av_br 154 (av_lq cl_66_7) (av_lq cl_66_8))))) (av_br 216 (av_br 191 (av_br 179 (av_lq cl_66_9) (av_lq cl_66_10)) (av_br 205 (av_lq cl_66_11) (av_lq cl_66_12))) (av_br 243 (av_br 229 (av_lq cl_66_13) (av_lq cl_66_14)) (av_br 254 (av_lq cl_66_15) (av_br 267 (av_lq cl_66_16) (av_lq cl_66_17))))))
set_option maxRecDepth 100000 in
set_option maxHeartbeats 4000000 in
theorem ck_66 : ∀ (pc : Nat) (x : av_E), cf_66 pc = some x → cd_66.lookup pc = some x := by
  have h : ∀ q ∈ cl_66_0 ++ (cl_66_1 ++ (cl_66_2 ++ (cl_66_3 ++ (cl_66_4 ++ (cl_66_5 ++ (cl_66_6 ++ (cl_66_7 ++ (cl_66_8 ++ (cl_66_9 ++ (cl_66_10 ++ (cl_66_11 ++ (cl_66_12 ++ (cl_66_13 ++ (cl_66_14 ++ (cl_66_15 ++ (cl_66_16 ++ (cl_66_17))))))))))))))))), cd_66.lookup q.1 = some q.2 := av_ascQ (cd := cd_66) (by decide +kernel)
  obtain ⟨h0, h⟩ := List.forall_mem_append.mp h
  obtain ⟨h1, h⟩ := List.forall_mem_append.mp h
  obtain ⟨h2, h⟩ := List.forall_mem_append.mp h
  obtain ⟨h3, h⟩ := List.forall_mem_append.mp h
  obtain ⟨h4, h⟩ := List.forall_mem_append.mp h
  obtain ⟨h5, h⟩ := List.forall_mem_append.mp h
  obtain ⟨h6, h⟩ := List.forall_mem_append.mp h
  obtain ⟨h7, h⟩ := List.forall_mem_append.mp h
  obtain ⟨h8, h⟩ := List.forall_mem_append.mp h
  obtain ⟨h9, h⟩ := List.forall_mem_append.mp h
  obtain ⟨h10, h⟩ := List.forall_mem_append.mp h
  obtain ⟨h11, h⟩ := List.forall_mem_append.mp h
  obtain ⟨h12, h⟩ := List.forall_mem_append.mp h
  obtain ⟨h13, h⟩ := List.forall_mem_append.mp h
  obtain ⟨h14, h⟩ := List.forall_mem_append.mp h
  obtain ⟨h15, h⟩ := List.forall_mem_append.mp h
  obtain ⟨h16, h⟩ := List.forall_mem_append.mp h
  have h17 := h
  exact (av_brP (av_brP (av_brP (av_brP (av_lqP h0) (av_lqP h1)) (av_brP (av_lqP h2) (av_lqP h3))) (av_brP (av_brP (av_lqP h4) (av_lqP h5)) (av_brP (av_lqP h6) (av_brP (av_lqP h7) (av_lqP h8))))) (av_brP (av_brP (av_brP (av_lqP h9) (av_lqP h10)) (av_brP (av_lqP h11) (av_lqP h12))) (av_brP (av_brP (av_lqP h13) (av_lqP h14)) (av_brP (av_lqP h15) (av_brP (av_lqP h16) (av_lqP h17))))))
def cl_67_0 : List (Nat × av_E) := [(0, av_q (.aload_n 0)), (1, av_qf (.getfield 15) 4 0 2), (4, av_qs (.ldc 69) 13), (6, av_qc (.invokevirtual 43) 87 1 0 6), (9, av_q (.istore_n 1)), (10, av_q (.aload_n 0))]
def cl_67_1 : List (Nat × av_E) := [(11, av_qf (.getfield 15) 4 0 2), (14, av_qs (.ldc 50) 14), (16, av_qc (.invokevirtual 43) 87 1 0 6), (19, av_q (.istore_n 2)), (20, av_q (.iconst 0)), (21, av_q (.istore_n 3))]
def cl_67_2 : List (Nat × av_E) := [(22, av_q (.iload_n 3)), (23, av_q (.iconst 2)), (24, av_qa (.if_icmp .gt 26) 50), (27, av_q (.iload_n 1)), (28, av_q (.iload_n 3)), (29, av_qa (.if_icmp .eq 8) 37)]
def cl_67_3 : List (Nat × av_E) := [(32, av_q (.iload_n 1)), (33, av_q (.iconst 3)), (34, av_qa (.if_icmp .ne 10) 44), (37, av_q (.aload_n 0)), (38, av_qf (.getfield 9) 4 1 2), (41, av_q (.iload_n 3))]
def cl_67_4 : List (Nat × av_E) := [(42, av_q (.iload_n 2)), (43, av_q (.iastore)), (44, av_q (.iinc 3 1)), (47, av_qa (.goto (-25)) 22), (50, av_q (.return_))]
def cf_67 : Nat → Option av_E := (av_br 21 (av_br 10 (av_lq cl_67_0) (av_lq cl_67_1)) (av_br 29 (av_lq cl_67_2) (av_br 41 (av_lq cl_67_3) (av_lq cl_67_4))))
set_option maxRecDepth 100000 in
set_option maxHeartbeats 4000000 in
theorem ck_67 : ∀ (pc : Nat) (x : av_E), cf_67 pc = some x → cd_67.lookup pc = some x := by
  have h : ∀ q ∈ cl_67_0 ++ (cl_67_1 ++ (cl_67_2 ++ (cl_67_3 ++ (cl_67_4)))), cd_67.lookup q.1 = some q.2 := av_ascQ (cd := cd_67) (by decide +kernel)
  obtain ⟨h0, h⟩ := List.forall_mem_append.mp h
  obtain ⟨h1, h⟩ := List.forall_mem_append.mp h
  obtain ⟨h2, h⟩ := List.forall_mem_append.mp h
  obtain ⟨h3, h⟩ := List.forall_mem_append.mp h
  have h4 := h
  exact (av_brP (av_brP (av_lqP h0) (av_lqP h1)) (av_brP (av_lqP h2) (av_brP (av_lqP h3) (av_lqP h4))))
def cl_68_0 : List (Nat × av_E) := [(0, av_q (.aload_n 0)), (1, av_qa (.invokespecial 3) 1000), (4, av_q (.aload_n 0)), (5, av_q (.bipush 16)), (7, av_qa (.anewarray 9) 30), (10, av_qf (.putfield 11) 5 0 2)]
def cl_68_1 : List (Nat × av_E) := [(13, av_q (.aload_n 0)), (14, av_q (.bipush 8)), (16, av_q (.bipush 14)), (18, av_q (.multianewarray 17 2)), (22, av_qf (.putfield 19) 5 1 2), (25, av_q (.aload_n 0))]
def cl_68_2 : List (Nat × av_E) := [(26, av_q (.bipush 6)), (28, av_q (.bipush 14)), (30, av_q (.multianewarray 17 2)), (34, av_qf (.putfield 22) 5 2 2), (37, av_q (.aload_n 0)), (38, av_q (.iconst 0))]
def cl_68_3 : List (Nat × av_E) := [(39, av_qf (.putfield 25) 5 3 0), (42, av_q (.aload_n 0)), (43, av_q (.iconst 0)), (44, av_qf (.putfield 29) 5 4 0), (47, av_q (.aload_n 0)), (48, av_q (.iconst 0))]
def cl_68_4 : List (Nat × av_E) := [(49, av_qf (.putfield 32) 5 5 0), (52, av_q (.return_))]
def cf_68 : Nat → Option av_E := (av_br 25 (av_br 10 (av_lq cl_68_0) (av_lq cl_68_1)) (av_br 38 (av_lq cl_68_2) (av_br 48 (av_lq cl_68_3) (av_lq cl_68_4))))
set_option maxRecDepth 100000 in
set_option maxHeartbeats 4000000 in
theorem ck_68 : ∀ (pc : Nat) (x : av_E), cf_68 pc = some x → cd_68.lookup pc = some x := by
  have h : ∀ q ∈ cl_68_0 ++ (cl_68_1 ++ (cl_68_2 ++ (cl_68_3 ++ (cl_68_4)))), cd_68.lookup q.1 = some q.2 := av_ascQ (cd := cd_68) (by decide +kernel)
  obtain ⟨h0, h⟩ := List.forall_mem_append.mp h
  obtain ⟨h1, h⟩ := List.forall_mem_append.mp h
  obtain ⟨h2, h⟩ := List.forall_mem_append.mp h
  obtain ⟨h3, h⟩ := List.forall_mem_append.mp h
  have h4 := h
  exact (av_brP (av_brP (av_lqP h0) (av_lqP h1)) (av_brP (av_lqP h2) (av_brP (av_lqP h3) (av_lqP h4))))
def cl_69_0 : List (Nat × av_E) := [(0, av_q (.iload_n 1)), (1, av_qa (.ifCond .lt 20) 21), (4, av_q (.iload_n 1)), (5, av_q (.aload_n 0)), (6, av_qf (.getfield 25) 5 3 0), (9, av_qa (.if_icmp .ge 12) 21)]
def cl_69_1 : List (Nat × av_E) := [(12, av_q (.aload_n 0)), (13, av_qf (.getfield 11) 5 0 2), (16, av_q (.iload_n 1)), (17, av_q (.aaload)), (18, av_qa (.goto 4) 22), (21, av_q (.aconst_null))]
def cl_69_2 : List (Nat × av_E) := [(22, av_q (.areturn))]
def cf_69 : Nat → Option av_E := (av_br 9 (av_lq cl_69_0) (av_br 21 (av_lq cl_69_1) (av_lq cl_69_2)))
set_option maxRecDepth 100000 in
set_option maxHeartbeats 4000000 in
theorem ck_69 : ∀ (pc : Nat) (x : av_E), cf_69 pc = some x → cd_69.lookup pc = some x := by
  have h : ∀ q ∈ cl_69_0 ++ (cl_69_1 ++ (cl_69_2)), cd_69.lookup q.1 = some q.2 := av_ascQ (cd := cd_69) (by decide +kernel)
  obtain ⟨h0, h⟩ := List.forall_mem_append.mp h
  obtain ⟨h1, h⟩ := List.forall_mem_append.mp h
  have h2 := h
  exact (av_brP (av_lqP h0) (av_brP (av_lqP h1) (av_lqP h2)))
def cl_70_0 : List (Nat × av_E) := [(0, av_q (.iload_n 1)), (1, av_qa (.ifCond .lt 15) 16), (4, av_q (.iload_n 1)), (5, av_q (.aload_n 0)), (6, av_qf (.getfield 29) 5 4 0), (9, av_qa (.if_icmp .ge 7) 16)]
def cl_70_1 : List (Nat × av_E) := [(12, av_q (.iconst 1)), (13, av_qa (.goto 4) 17), (16, av_q (.iconst 0)), (17, av_qa (.ireturn) 1)]
def cf_70 : Nat → Option av_E := (av_br 9 (av_lq cl_70_0) (av_lq cl_70_1))
set_option maxRecDepth 100000 in
set_option maxHeartbeats 4000000 in
theorem ck_70 : ∀ (pc : Nat) (x : av_E), cf_70 pc = some x → cd_70.lookup pc = some x := by
  have h : ∀ q ∈ cl_70_0 ++ (cl_70_1), cd_70.lookup q.1 = some q.2 := av_ascQ (cd := cd_70) (by decide +kernel)
  obtain ⟨h0, h⟩ := List.forall_mem_append.mp h
  have h1 := h
  exact (av_brP (av_lqP h0) (av_lqP h1))
def cl_71_0 : List (Nat × av_E) := [(0, av_q (.aload_n 0)), (1, av_qf (.getfield 25) 5 3 0), (4, av_q (.bipush 16)), (6, av_qa (.if_icmp .lt 5) 11), (9, av_q (.iconst (-1))), (10, av_q (.ireturn))]
def cl_71_1 : List (Nat × av_E) := [(11, av_q (.aload_n 0)), (12, av_qf (.getfield 11) 5 0 2), (15, av_q (.aload_n 0)), (16, av_qf (.getfield 25) 5 3 0), (19, av_q (.aload_n 1)), (20, av_q (.aastore))]
def cl_71_2 : List (Nat × av_E) := [(21, av_q (.aload_n 0)), (22, av_q (.dup)), (23, av_qf (.getfield 25) 5 3 0), (26, av_q (.iconst 1)), (27, av_q (.iadd)), (28, av_qf (.putfield 25) 5 3 0)]
def cl_71_3 : List (Nat × av_E) := [(31, av_q (.aload_n 0)), (32, av_qf (.getfield 25) 5 3 0), (35, av_q (.iconst 1)), (36, av_q (.isub)), (37, av_q (.ireturn))]
def cf_71 : Nat → Option av_E := (av_br 20 (av_br 10 (av_lq cl_71_0) (av_lq cl_71_1)) (av_br 28 (av_lq cl_71_2) (av_lq cl_71_3)))
set_option maxRecDepth 100000 in
set_option maxHeartbeats 4000000 in
theorem ck_71 : ∀ (pc : Nat) (x : av_E), cf_71 pc = some x → cd_71.lookup pc = some x := by
  have h : ∀ q ∈ cl_71_0 ++ (cl_71_1 ++ (cl_71_2 ++ (cl_71_3))), cd_71.lookup q.1 = some q.2 := av_ascQ (cd := cd_71) (by decide +kernel)
  obtain ⟨h0, h⟩ := List.forall_mem_append.mp h
  obtain ⟨h1, h⟩ := List.forall_mem_append.mp h
  obtain ⟨h2, h⟩ := List.forall_mem_append.mp h
  have h3 := h
  exact (av_brP (av_brP (av_lqP h0) (av_lqP h1)) (av_brP (av_lqP h2) (av_lqP h3)))
def cl_72_0 : List (Nat × av_E) := [(0, av_q (.aload_n 0)), (1, av_qf (.getfield 29) 5 4 0), (4, av_q (.bipush 8)), (6, av_qa (.if_icmp .lt 5) 11), (9, av_q (.iconst (-1))), (10, av_q (.ireturn))]
def cl_72_1 : List (Nat × av_E) := [(11, av_q (.getstatic 35)), (14, av_q (.iconst 0)), (15, av_q (.aload_n 0)), (16, av_qf (.getfield 19) 5 1 2), (19, av_q (.aload_n 0)), (20, av_qf (.getfield 29) 5 4 0)]
def cl_72_2 : List (Nat × av_E) := [(23, av_q (.aaload)), (24, av_q (.iconst 0)), (25, av_q (.bipush 14)), (27, av_qa (.invokestatic 39) 1003), (30, av_q (.aload_n 0)), (31, av_qf (.getfield 19) 5 1 2)]
def cl_72_3 : List (Nat × av_E) := [(34, av_q (.aload_n 0)), (35, av_qf (.getfield 29) 5 4 0), (38, av_q (.aaload)), (39, av_q (.aload_n 1)), (40, av_qc (.invokestatic 45) 74 2 2 5), (43, av_q (.aload_n 0))]
def cl_72_4 : List (Nat × av_E) := [(44, av_q (.dup)), (45, av_qf (.getfield 29) 5 4 0), (48, av_q (.iconst 1)), (49, av_q (.iadd)), (50, av_qf (.putfield 29) 5 4 0), (53, av_q (.aload_n 0))]
def cl_72_5 : List (Nat × av_E) := [(54, av_qf (.getfield 29) 5 4 0), (57, av_q (.iconst 1)), (58, av_q (.isub)), (59, av_q (.ireturn))]
def cf_72 : Nat → Option av_E := (av_br 31 (av_br 10 (av_lq cl_72_0) (av_br 20 (av_lq cl_72_1) (av_lq cl_72_2))) (av_br 43 (av_lq cl_72_3) (av_br 53 (av_lq cl_72_4) (av_lq cl_72_5))))
set_option maxRecDepth 100000 in
set_option maxHeartbeats 4000000 in
theorem ck_72 : ∀ (pc : Nat) (x : av_E), cf_72 pc = some x → cd_72.lookup pc = some x := by
  have h : ∀ q ∈ cl_72_0 ++ (cl_72_1 ++ (cl_72_2 ++ (cl_72_3 ++ (cl_72_4 ++ (cl_72_5))))), cd_72.lookup q.1 = some q.2 := av_ascQ (cd := cd_72) (by decide +kernel)
  obtain ⟨h0, h⟩ := List.forall_mem_append.mp h
  obtain ⟨h1, h⟩ := List.forall_mem_append.mp h
  obtain ⟨h2, h⟩ := List.forall_mem_append.mp h
  obtain ⟨h3, h⟩ := List.forall_mem_append.mp h
  obtain ⟨h4, h⟩ := List.forall_mem_append.mp h
  have h5 := h
  exact (av_brP (av_brP (av_lqP h0) (av_brP (av_lqP h1) (av_lqP h2))) (av_brP (av_lqP h3) (av_brP (av_lqP h4) (av_lqP h5))))
def cl_73_0 : List (Nat × av_E) := [(0, av_q (.aload_n 0)), (1, av_qf (.getfield 32) 5 5 0), (4, av_q (.bipush 6)), (6, av_qa (.if_icmp .lt 5) 11), (9, av_q (.iconst (-1))), (10, av_q (.ireturn))]
def cl_73_1 : List (Nat × av_E) := [(11, av_q (.aload_n 1)), (12, av_q (.iconst 0)), (13, av_q (.aload_n 0)), (14, av_qf (.getfield 22) 5 2 2), (17, av_q (.aload_n 0)), (18, av_qf (.getfield 32) 5 5 0)]
def cl_73_2 : List (Nat × av_E) := [(21, av_q (.aaload)), (22, av_q (.iconst 0)), (23, av_q (.bipush 14)), (25, av_qa (.invokestatic 39) 1003), (28, av_q (.aload_n 0)), (29, av_q (.dup))]
def cl_73_3 : List (Nat × av_E) := [(30, av_qf (.getfield 32) 5 5 0), (33, av_q (.iconst 1)), (34, av_q (.iadd)), (35, av_qf (.putfield 32) 5 5 0), (38, av_q (.aload_n 0)), (39, av_qf (.getfield 32) 5 5 0)]
def cl_73_4 : List (Nat × av_E) := [(42, av_q (.iconst 1)), (43, av_q (.isub)), (44, av_q (.ireturn))]
def cf_73 : Nat → Option av_E := (av_br 18 (av_br 10 (av_lq cl_73_0) (av_lq cl_73_1)) (av_br 29 (av_lq cl_73_2) (av_br 39 (av_lq cl_73_3) (av_lq cl_73_4))))
set_option maxRecDepth 100000 in
set_option maxHeartbeats 4000000 in
theorem ck_73 : ∀ (pc : Nat) (x : av_E), cf_73 pc = some x → cd_73.lookup pc = some x := by
  have h : ∀ q ∈ cl_73_0 ++ (cl_73_1 ++ (cl_73_2 ++ (cl_73_3 ++ (cl_73_4)))), cd_73.lookup q.1 = some q.2 := av_ascQ (cd := cd_73) (by decide +kernel)
  obtain ⟨h0, h⟩ := List.forall_mem_append.mp h
  obtain ⟨h1, h⟩ := List.forall_mem_append.mp h
  obtain ⟨h2, h⟩ := List.forall_mem_append.mp h
  obtain ⟨h3, h⟩ := List.forall_mem_append.mp h
  have h4 := h
  exact (av_brP (av_brP (av_lqP h0) (av_lqP h1)) (av_brP (av_lqP h2) (av_brP (av_lqP h3) (av_lqP h4))))
def cl_74_0 : List (Nat × av_E) := [(0, av_q (.iconst 0)), (1, av_q (.istore_n 2)), (2, av_q (.iload_n 2)), (3, av_q (.bipush 14)), (5, av_qa (.if_icmp .ge 23) 28), (8, av_q (.aload_n 1))]
def cl_74_1 : List (Nat × av_E) := [(9, av_q (.iload_n 2)), (10, av_q (.iaload)), (11, av_q (.bipush (-2))), (13, av_qa (.if_icmp .eq 9) 22), (16, av_q (.aload_n 0)), (17, av_q (.iload_n 2))]
def cl_74_2 : List (Nat × av_E) := [(18, av_q (.aload_n 1)), (19, av_q (.iload_n 2)), (20, av_q (.iaload)), (21, av_q (.iastore)), (22, av_q (.iinc 2 1)), (25, av_qa (.goto (-23)) 2)]
def cl_74_3 : List (Nat × av_E) := [(28, av_q (.return_))]
def cf_74 : Nat → Option av_E := (av_br 17 (av_br 8 (av_lq cl_74_0) (av_lq cl_74_1)) (av_br 25 (av_lq cl_74_2) (av_lq cl_74_3)))
set_option maxRecDepth 100000 in
set_option maxHeartbeats 4000000 in
theorem ck_74 : ∀ (pc : Nat) (x : av_E), cf_74 pc = some x → cd_74.lookup pc = some x := by
  have h : ∀ q ∈ cl_74_0 ++ (cl_74_1 ++ (cl_74_2 ++ (cl_74_3))), cd_74.lookup q.1 = some q.2 := av_ascQ (cd := cd_74) (by decide +kernel)
  obtain ⟨h0, h⟩ := List.forall_mem_append.mp h
  obtain ⟨h1, h⟩ := List.forall_mem_append.mp h
  obtain ⟨h2, h⟩ := List.forall_mem_append.mp h
  have h3 := h
  exact (av_brP (av_brP (av_lqP h0) (av_lqP h1)) (av_brP (av_lqP h2) (av_lqP h3)))
def cl_75_0 : List (Nat × av_E) := [(0, av_q (.aload_n 0)), (1, av_q (.iload_n 2)), (2, av_qc (.invokevirtual 49) 70 1 0 5), (5, av_qa (.ifCond .ne 4) 9), (8, av_q (.return_)), (9, av_q (.aload_n 0))]
def cl_75_1 : List (Nat × av_E) := [(10, av_qf (.getfield 19) 5 1 2), (13, av_q (.iload_n 2)), (14, av_q (.aaload)), (15, av_q (.iconst 0)), (16, av_q (.aload_n 1)), (17, av_q (.iconst 0))]
def cl_75_2 : List (Nat × av_E) := [(18, av_q (.bipush 14)), (20, av_qa (.invokestatic 39) 1003), (23, av_q (.iconst 0)), (24, av_q (.istore 4)), (26, av_q (.iload 4)), (28, av_q (.aload_n 0))]
def cl_75_3 : List (Nat × av_E) := [(29, av_qf (.getfield 32) 5 5 0), (32, av_qa (.if_icmp .ge 30) 62), (35, av_q (.iload_n 3)), (36, av_q (.iload 4)), (38, av_q (.ishr)), (39, av_q (.iconst 1))]
def cl_75_4 : List (Nat × av_E) := [(40, av_q (.iand)), (41, av_q (.iconst 1)), (42, av_qa (.if_icmp .ne 14) 56), (45, av_q (.aload_n 1)), (46, av_q (.aload_n 0)), (47, av_qf (.getfield 22) 5 2 2)]
def cl_75_5 : List (Nat × av_E) := [(50, av_q (.iload 4)), (52, av_q (.aaload)), (53, av_qc (.invokestatic 45) 74 2 2 5), (56, av_q (.iinc 4 1)), (59, av_qa (.goto (-33)) 26), (62, av_q (.return_))]
def cf_75 : Nat → Option av_E := (av_br 28 (av_br 9 (av_lq cl_75_0) (av_br 17 (av_lq cl_75_1) (av_lq cl_75_2))) (av_br 39 (av_lq cl_75_3) (av_br 47 (av_lq cl_75_4) (av_lq cl_75_5))))
set_option maxRecDepth 100000 in
set_option maxHeartbeats 4000000 in
theorem ck_75 : ∀ (pc : Nat) (x : av_E), cf_75 pc = some x → cd_75.lookup pc = some x := by
  have h : ∀ q ∈ cl_75_0 ++ (cl_75_1 ++ (cl_75_2 ++ (cl_75_3 ++ (cl_75_4 ++ (cl_75_5))))), cd_75.lookup q.1 = some q.2 := av_ascQ (cd := cd_75) (by decide +kernel)
  obtain ⟨h0, h⟩ := List.forall_mem_append.mp h
  obtain ⟨h1, h⟩ := List.forall_mem_append.mp h
  obtain ⟨h2, h⟩ := List.forall_mem_append.mp h
  obtain ⟨h3, h⟩ := List.forall_mem_append.mp h
  obtain ⟨h4, h⟩ := List.forall_mem_append.mp h
  have h5 := h
  exact (av_brP (av_brP (av_lqP h0) (av_brP (av_lqP h1) (av_lqP h2))) (av_brP (av_lqP h3) (av_brP (av_lqP h4) (av_lqP h5))))
def cl_76_0 : List (Nat × av_E) := [(0, av_q (.iconst 0)), (1, av_q (.istore_n 1)), (2, av_q (.iconst 0)), (3, av_q (.istore_n 2)), (4, av_q (.iload_n 2)), (5, av_q (.aload_n 0))]
def cl_76_1 : List (Nat × av_E) := [(6, av_qf (.getfield 25) 5 3 0), (9, av_qa (.if_icmp .ge 30) 39), (12, av_q (.aload_n 0)), (13, av_q (.iload_n 2)), (14, av_qc (.invokevirtual 53) 69 1 0 5), (17, av_q (.astore_n 3))]
def cl_76_2 : List (Nat × av_E) := [(18, av_q (.iload_n 1)), (19, av_q (.aload_n 3)), (20, av_qa (.ifnonnull 7) 27), (23, av_q (.iconst 0)), (24, av_qa (.goto 7) 31), (27, av_q (.aload_n 3))]
def cl_76_3 : List (Nat × av_E) := [(28, av_qf (.getfield 57) 1 1 0), (31, av_q (.iadd)), (32, av_q (.istore_n 1)), (33, av_q (.iinc 2 1)), (36, av_qa (.goto (-32)) 4), (39, av_q (.iload_n 1))]
def cl_76_4 : List (Nat × av_E) := [(40, av_q (.ireturn))]
def cf_76 : Nat → Option av_E := (av_br 17 (av_br 5 (av_lq cl_76_0) (av_lq cl_76_1)) (av_br 27 (av_lq cl_76_2) (av_br 39 (av_lq cl_76_3) (av_lq cl_76_4))))
set_option maxRecDepth 100000 in
set_option maxHeartbeats 4000000 in
theorem ck_76 : ∀ (pc : Nat) (x : av_E), cf_76 pc = some x → cd_76.lookup pc = some x := by
  have h : ∀ q ∈ cl_76_0 ++ (cl_76_1 ++ (cl_76_2 ++ (cl_76_3 ++ (cl_76_4)))), cd_76.lookup q.1 = some q.2 := av_ascQ (cd := cd_76) (by decide +kernel)
  obtain ⟨h0, h⟩ := List.forall_mem_append.mp h
  obtain ⟨h1, h⟩ := List.forall_mem_append.mp h
  obtain ⟨h2, h⟩ := List.forall_mem_append.mp h
  obtain ⟨h3, h⟩ := List.forall_mem_append.mp h
  have h4 := h
  exact (av_brP (av_brP (av_lqP h0) (av_lqP h1)) (av_brP (av_lqP h2) (av_brP (av_lqP h3) (av_lqP h4))))
def cl_77_0 : List (Nat × av_E) := [(0, av_q (.aload_n 0)), (1, av_q (.aload_n 1)), (2, av_qf (.getfield 25) 5 3 0), (5, av_qf (.putfield 25) 5 3 0), (8, av_q (.aload_n 0)), (9, av_q (.aload_n 1))]
def cl_77_1 : List (Nat × av_E) := [(10, av_qf (.getfield 29) 5 4 0), (13, av_qf (.putfield 29) 5 4 0), (16, av_q (.aload_n 0)), (17, av_q (.aload_n 1)), (18, av_qf (.getfield 32) 5 5 0), (21, av_qf (.putfield 32) 5 5 0)]
def cl_77_2 : List (Nat × av_E) := [(24, av_q (.iconst 0)), (25, av_q (.istore_n 2)), (26, av_q (.iload_n 2)), (27, av_q (.bipush 16)), (29, av_qa (.if_icmp .ge 21) 50), (32, av_q (.aload_n 0))]
def cl_77_3 : List (Nat × av_E) := [(33, av_qf (.getfield 11) 5 0 2), (36, av_q (.iload_n 2)), (37, av_q (.aload_n 1)), (38, av_qf (.getfield 11) 5 0 2), (41, av_q (.iload_n 2)), (42, av_q (.aaload))]
def cl_77_4 : List (Nat × av_E) := [(43, av_q (.aastore)), (44, av_q (.iinc 2 1)), (47, av_qa (.goto (-21)) 26), (50, av_q (.iconst 0)), (51, av_q (.istore_n 2)), (52, av_q (.iload_n 2))]
def cl_77_5 : List (Nat × av_E) := [(53, av_q (.bipush 8)), (55, av_qa (.if_icmp .ge 28) 83), (58, av_q (.aload_n 1)), (59, av_qf (.getfield 19) 5 1 2), (62, av_q (.iload_n 2)), (63, av_q (.aaload))]
def cl_77_6 : List (Nat × av_E) := [(64, av_q (.iconst 0)), (65, av_q (.aload_n 0)), (66, av_qf (.getfield 19) 5 1 2), (69, av_q (.iload_n 2)), (70, av_q (.aaload)), (71, av_q (.iconst 0))]
def cl_77_7 : List (Nat × av_E) := [(72, av_q (.bipush 14)), (74, av_qa (.invokestatic 39) 1003), (77, av_q (.iinc 2 1)), (80, av_qa (.goto (-28)) 52), (83, av_q (.iconst 0)), (84, av_q (.istore_n 2))]
def cl_77_8 : List (Nat × av_E) := [(85, av_q (.iload_n 2)), (86, av_q (.bipush 6)), (88, av_qa (.if_icmp .ge 28) 116), (91, av_q (.aload_n 1)), (92, av_qf (.getfield 22) 5 2 2), (95, av_q (.iload_n 2))]
def cl_77_9 : List (Nat × av_E) := [(96, av_q (.aaload)), (97, av_q (.iconst 0)), (98, av_q (.aload_n 0)), (99, av_qf (.getfield 22) 5 2 2), (102, av_q (.iload_n 2)), (103, av_q (.aaload))]
def cl_77_10 : List (Nat × av_E) := [(104, av_q (.iconst 0)), (105, av_q (.bipush 14)), (107, av_qa (.invokestatic 39) 1003), (110, av_q (.iinc 2 1)), (113, av_qa (.goto (-28)) 85), (116, av_q (.return_))]
def cf_77 : Nat → Option av_E := (av_br 52 (av_br 21 (av_br 9 (av_lq cl_77_0) (av_lq cl_77_1)) (av_br 32 (av_lq cl_77_2) (av_br 42 (av_lq cl_77_3) (av_lq cl_77_4)))) (av_br 84 (av_br 63 (av_lq cl_77_5) (av_br 71 (av_lq cl_77_6) (av_lq cl_77_7))) (av_br 95 (av_lq cl_77_8) (av_br 103 (av_lq cl_77_9) (av_lq cl_77_10)))))
set_option maxRecDepth 100000 in
set_option maxHeartbeats 4000000 in
theorem ck_77 : ∀ (pc : Nat) (x : av_E), cf_77 pc = some x → cd_77.lookup pc = some x := by
  have h : ∀ q ∈ cl_77_0 ++ (cl_77_1 ++ (cl_77_2 ++ (cl_77_3 ++ (cl_77_4 ++ (cl_77_5 ++ (cl_77_6 ++ (cl_77_7 ++ (cl_77_8 ++ (cl_77_9 ++ (cl_77_10)))))))))), cd_77.lookup q.1 = some q.2 := av_ascQ (cd := cd_77) (by decide +kernel)
  obtain ⟨h0, h⟩ := List.forall_mem_append.mp h
  obtain ⟨h1, h⟩ := List.forall_mem_append.mp h
  obtain ⟨h2, h⟩ := List.forall_mem_append.mp h
  obtain ⟨h3, h⟩ := List.forall_mem_append.mp h
  obtain ⟨h4, h⟩ := List.forall_mem_append.mp h
  obtain ⟨h5, h⟩ := List.forall_mem_append.mp h
  obtain ⟨h6, h⟩ := List.forall_mem_append.mp h
  obtain ⟨h7, h⟩ := List.forall_mem_append.mp h
  obtain ⟨h8, h⟩ := List.forall_mem_append.mp h
  obtain ⟨h9, h⟩ := List.forall_mem_append.mp h
  have h10 := h
  exact (av_brP (av_brP (av_brP (av_lqP h0) (av_lqP h1)) (av_brP (av_lqP h2) (av_brP (av_lqP h3) (av_lqP h4)))) (av_brP (av_brP (av_lqP h5) (av_brP (av_lqP h6) (av_lqP h7))) (av_brP (av_lqP h8) (av_brP (av_lqP h9) (av_lqP h10)))))
def cl_79_0 : List (Nat × av_E) := [(0, av_q (.bipush 24)), (2, av_q (.istore_n 2)), (3, av_q (.iload_n 2)), (4, av_qa (.ifCond .lt 42) 46), (7, av_q (.aload_n 0)), (8, av_qf (.getfield 15) 6 1 0)]
def cl_79_1 : List (Nat × av_E) := [(11, av_q (.sipush 900)), (14, av_qa (.if_icmp .ge 32) 46), (17, av_q (.aload_n 0)), (18, av_qf (.getfield 11) 6 0 2), (21, av_q (.aload_n 0)), (22, av_qf (.getfield 15) 6 1 0)]
def cl_79_2 : List (Nat × av_E) := [(25, av_q (.iload_n 1)), (26, av_q (.iload_n 2)), (27, av_q (.ishr)), (28, av_q (.i2b)), (29, av_q (.bastore)), (30, av_q (.aload_n 0))]
def cl_79_3 : List (Nat × av_E) := [(31, av_q (.dup)), (32, av_qf (.getfield 15) 6 1 0), (35, av_q (.iconst 1)), (36, av_q (.iadd)), (37, av_qf (.putfield 15) 6 1 0), (40, av_q (.iinc 2 (-8)))]
def cl_79_4 : List (Nat × av_E) := [(43, av_qa (.goto (-40)) 3), (46, av_q (.return_))]
def cf_79 : Nat → Option av_E := (av_br 22 (av_br 8 (av_lq cl_79_0) (av_lq cl_79_1)) (av_br 30 (av_lq cl_79_2) (av_br 40 (av_lq cl_79_3) (av_lq cl_79_4))))
set_option maxRecDepth 100000 in
set_option maxHeartbeats 4000000 in
theorem ck_79 : ∀ (pc : Nat) (x : av_E), cf_79 pc = some x → cd_79.lookup pc = some x := by
  have h : ∀ q ∈ cl_79_0 ++ (cl_79_1 ++ (cl_79_2 ++ (cl_79_3 ++ (cl_79_4)))), cd_79.lookup q.1 = some q.2 := av_ascQ (cd := cd_79) (by decide +kernel)
  obtain ⟨h0, h⟩ := List.forall_mem_append.mp h
  obtain ⟨h1, h⟩ := List.forall_mem_append.mp h
  obtain ⟨h2, h⟩ := List.forall_mem_append.mp h
  obtain ⟨h3, h⟩ := List.forall_mem_append.mp h
  have h4 := h
  exact (av_brP (av_brP (av_lqP h0) (av_lqP h1)) (av_brP (av_lqP h2) (av_brP (av_lqP h3) (av_lqP h4))))
def cl_80_0 : List (Nat × av_E) := [(0, av_q (.iload_n 1)), (1, av_qa (.ifCond .lt 15) 16), (4, av_q (.iload_n 1)), (5, av_q (.aload_n 0)), (6, av_qf (.getfield 15) 6 1 0), (9, av_qa (.if_icmp .gt 7) 16)]
def cl_80_1 : List (Nat × av_E) := [(12, av_q (.iconst 1)), (13, av_qa (.goto 4) 17), (16, av_q (.iconst 0)), (17, av_qa (.ireturn) 1)]
def cf_80 : Nat → Option av_E := (av_br 9 (av_lq cl_80_0) (av_lq cl_80_1))
set_option maxRecDepth 100000 in
set_option maxHeartbeats 4000000 in
theorem ck_80 : ∀ (pc : Nat) (x : av_E), cf_80 pc = some x → cd_80.lookup pc = some x := by
  have h : ∀ q ∈ cl_80_0 ++ (cl_80_1), cd_80.lookup q.1 = some q.2 := av_ascQ (cd := cd_80) (by decide +kernel)
  obtain ⟨h0, h⟩ := List.forall_mem_append.mp h
  have h1 := h
  exact (av_brP (av_lqP h0) (av_lqP h1))
def cl_81_0 : List (Nat × av_E) := [(0, av_q (.aload_n 0)), (1, av_q (.aload_n 0)), (2, av_q (.iload_n 1)), (3, av_qc (.invokevirtual 34) 80 1 0 6), (6, av_qa (.ifCond .eq 7) 13), (9, av_q (.iload_n 1))]
def cl_81_1 : List (Nat × av_E) := [(10, av_qa (.goto 4) 14), (13, av_q (.iconst 0)), (14, av_qf (.putfield 19) 6 2 0), (17, av_q (.aload_n 0)), (18, av_q (.iconst 0)), (19, av_qf (.putfield 25) 6 4 0)]
def cl_81_2 : List (Nat × av_E) := [(22, av_q (.aload_n 0)), (23, av_q (.iconst (-1))), (24, av_qf (.putfield 31) 6 6 0), (27, av_q (.aload_n 0)), (28, av_qc (.invokevirtual 38) 82 0 0 6), (31, av_q (.return_))]
def cf_81 : Nat → Option av_E := (av_br 9 (av_lq cl_81_0) (av_br 19 (av_lq cl_81_1) (av_lq cl_81_2)))
set_option maxRecDepth 100000 in
set_option maxHeartbeats 4000000 in
theorem ck_81 : ∀ (pc : Nat) (x : av_E), cf_81 pc = some x → cd_81.lookup pc = some x := by
  have h : ∀ q ∈ cl_81_0 ++ (cl_81_1 ++ (cl_81_2)), cd_81.lookup q.1 = some q.2 := av_ascQ (cd := cd_81) (by decide +kernel)
  obtain ⟨h0, h⟩ := List.forall_mem_append.mp h
  obtain ⟨h1, h⟩ := List.forall_mem_append.mp h
  have h2 := h
  exact (av_brP (av_lqP h0) (av_brP (av_lqP h1) (av_lqP h2)))
def cl_82_0 : List (Nat × av_E) := [(0, av_q (.aload_n 0)), (1, av_qf (.getfield 25) 6 4 0), (4, av_q (.istore_n 1)), (5, av_q (.iload_n 1)), (6, av_q (.aload_n 0)), (7, av_qf (.getfield 19) 6 2 0)]
def cl_82_1 : List (Nat × av_E) := [(10, av_qa (.if_icmp .ge 22) 32), (13, av_q (.aload_n 0)), (14, av_qf (.getfield 11) 6 0 2), (17, av_q (.iload_n 1)), (18, av_q (.baload)), (19, av_qc (.invokestatic 41) 83 1 2 6)]
def cl_82_2 : List (Nat × av_E) := [(22, av_q (.iconst 4)), (23, av_qa (.if_icmp .ne 9) 32), (26, av_q (.iinc 1 1)), (29, av_qa (.goto (-24)) 5), (32, av_q (.aload_n 0)), (33, av_q (.iload_n 1))]
def cl_82_3 : List (Nat × av_E) := [(34, av_qf (.putfield 22) 6 3 0), (37, av_q (.aload_n 0)), (38, av_q (.iload_n 1)), (39, av_q (.aload_n 0)), (40, av_qf (.getfield 19) 6 2 0), (43, av_qa (.if_icmp .ge 15) 58)]
def cl_82_4 : List (Nat × av_E) := [(46, av_q (.aload_n 0)), (47, av_qf (.getfield 11) 6 0 2), (50, av_q (.iload_n 1)), (51, av_q (.baload)), (52, av_qc (.invokestatic 41) 83 1 2 6), (55, av_qa (.goto 4) 59)]
def cl_82_5 : List (Nat × av_E) := [(58, av_q (.iconst 0)), (59, av_qf (.putfield 28) 6 5 0), (62, av_q (.iload_n 1)), (63, av_q (.aload_n 0)), (64, av_qf (.getfield 19) 6 2 0), (67, av_qa (.if_icmp .ge 6) 73)]
def cl_82_6 : List (Nat × av_E) := [(70, av_q (.iinc 1 1)), (73, av_q (.aload_n 0)), (74, av_qf (.getfield 28) 6 5 0), (77, av_q (.iconst 1)), (78, av_qa (.if_icmp .eq 11) 89), (81, av_q (.aload_n 0))]
def cl_82_7 : List (Nat × av_E) := [(82, av_qf (.getfield 28) 6 5 0), (85, av_q (.iconst 2)), (86, av_qa (.if_icmp .ne 33) 119), (89, av_q (.iload_n 1)), (90, av_q (.aload_n 0)), (91, av_qf (.getfield 19) 6 2 0)]
def cl_82_8 : List (Nat × av_E) := [(94, av_qa (.if_icmp .ge 25) 119), (97, av_q (.aload_n 0)), (98, av_qf (.getfield 11) 6 0 2), (101, av_q (.iload_n 1)), (102, av_q (.baload)), (103, av_qc (.invokestatic 41) 83 1 2 6)]
def cl_82_9 : List (Nat × av_E) := [(106, av_q (.aload_n 0)), (107, av_qf (.getfield 28) 6 5 0), (110, av_qa (.if_icmp .ne 9) 119), (113, av_q (.iinc 1 1)), (116, av_qa (.goto (-27)) 89), (119, av_q (.aload_n 0))]
def cl_82_10 : List (Nat × av_E) := [(120, av_q (.iload_n 1)), (121, av_qf (.putfield 25) 6 4 0), (124, av_q (.return_))]
def cf_82 : Nat → Option av_E := (av_br 55 (av_br 19 (av_br 7 (av_lq cl_82_0) (av_lq cl_82_1)) (av_br 33 (av_lq cl_82_2) (av_br 43 (av_lq cl_82_3) (av_lq cl_82_4)))) (av_br 91 (av_br 67 (av_lq cl_82_5) (av_br 81 (av_lq cl_82_6) (av_lq cl_82_7))) (av_br 103 (av_lq cl_82_8) (av_br 119 (av_lq cl_82_9) (av_lq cl_82_10)))))
set_option maxRecDepth 100000 in
set_option maxHeartbeats 4000000 in
theorem ck_82 : ∀ (pc : Nat) (x : av_E), cf_82 pc = some x → cd_82.lookup pc = some x := by
  have h : ∀ q ∈ cl_82_0 ++ (cl_82_1 ++ (cl_82_2 ++ (cl_82_3 ++ (cl_82_4 ++ (cl_82_5 ++ (cl_82_6 ++ (cl_82_7 ++ (cl_82_8 ++ (cl_82_9 ++ (cl_82_10)))))))))), cd_82.lookup q.1 = some q.2 := av_ascQ (cd := cd_82) (by decide +kernel)
  obtain ⟨h0, h⟩ := List.forall_mem_append.mp h
  obtain ⟨h1, h⟩ := List.forall_mem_append.mp h
  obtain ⟨h2, h⟩ := List.forall_mem_append.mp h
  obtain ⟨h3, h⟩ := List.forall_mem_append.mp h
  obtain ⟨h4, h⟩ := List.forall_mem_append.mp h
  obtain ⟨h5, h⟩ := List.forall_mem_append.mp h
  obtain ⟨h6, h⟩ := List.forall_mem_append.mp h
  obtain ⟨h7, h⟩ := List.forall_mem_append.mp h
  obtain ⟨h8, h⟩ := List.forall_mem_append.mp h
  obtain ⟨h9, h⟩ := List.forall_mem_append.mp h
  have h10 := h
  exact (av_brP (av_brP (av_brP (av_lqP h0) (av_lqP h1)) (av_brP (av_lqP h2) (av_brP (av_lqP h3) (av_lqP h4)))) (av_brP (av_brP (av_lqP h5) (av_brP (av_lqP h6) (av_lqP h7))) (av_brP (av_lqP h8) (av_brP (av_lqP h9) (av_lqP h10)))))
def cl_83_0 : List (Nat × av_E) := [(0, av_q (.iload_n 0)), (1, av_q (.bipush 97)), (3, av_qa (.if_icmp .lt 11) 14), (6, av_q (.iload_n 0)), (7, av_q (.bipush 122)), (9, av_qa (.if_icmp .gt 5) 14)]
def cl_83_1 : List (Nat × av_E) := [(12, av_q (.iconst 1)), (13, av_q (.ireturn)), (14, av_q (.iload_n 0)), (15, av_q (.bipush 48)), (17, av_qa (.if_icmp .lt 11) 28), (20, av_q (.iload_n 0))]
def cl_83_2 : List (Nat × av_E) := [(21, av_q (.bipush 57)), (23, av_qa (.if_icmp .gt 5) 28), (26, av_q (.iconst 2)), (27, av_q (.ireturn)), (28, av_q (.iload_n 0)), (29, av_q (.bipush 59))]
def cl_83_3 : List (Nat × av_E) := [(31, av_qa (.if_icmp .ne 5) 36), (34, av_q (.iconst 3)), (35, av_q (.ireturn)), (36, av_q (.iload_n 0)), (37, av_q (.bipush 32)), (39, av_qa (.if_icmp .eq 9) 48)]
def cl_83_4 : List (Nat × av_E) := [(42, av_q (.iload_n 0)), (43, av_q (.bipush 10)), (45, av_qa (.if_icmp .ne 7) 52), (48, av_q (.iconst 4)), (49, av_qa (.goto 4) 53), (52, av_q (.iconst 5))]
def cl_83_5 : List (Nat × av_E) := [(53, av_q (.ireturn))]
def cf_83 : Nat → Option av_E := (av_br 29 (av_br 9 (av_lq cl_83_0) (av_br 20 (av_lq cl_83_1) (av_lq cl_83_2))) (av_br 39 (av_lq cl_83_3) (av_br 52 (av_lq cl_83_4) (av_lq cl_83_5))))
set_option maxRecDepth 100000 in
set_option maxHeartbeats 4000000 in
theorem ck_83 : ∀ (pc : Nat) (x : av_E), cf_83 pc = some x → cd_83.lookup pc = some x := by
  have h : ∀ q ∈ cl_83_0 ++ (cl_83_1 ++ (cl_83_2 ++ (cl_83_3 ++ (cl_83_4 ++ (cl_83_5))))), cd_83.lookup q.1 = some q.2 := av_ascQ (cd := cd_83) (by decide +kernel)
  obtain ⟨h0, h⟩ := List.forall_mem_append.mp h
  obtain ⟨h1, h⟩ := List.forall_mem_append.mp h
  obtain ⟨h2, h⟩ := List.forall_mem_append.mp h
  obtain ⟨h3, h⟩ := List.forall_mem_append.mp h
  obtain ⟨h4, h⟩ := List.forall_mem_append.mp h
  have h5 := h
  exact (av_brP (av_brP (av_lqP h0) (av_brP (av_lqP h1) (av_lqP h2))) (av_brP (av_lqP h3) (av_brP (av_lqP h4) (av_lqP h5))))
def cl_84_0 : List (Nat × av_E) := [(0, av_q (.aload_n 0)), (1, av_qf (.getfield 31) 6 6 0), (4, av_q (.iconst (-1))), (5, av_qa (.if_icmp .ne 14) 19), (8, av_q (.aload_n 0)), (9, av_qf (.getfield 28) 6 5 0)]
def cl_84_1 : List (Nat × av_E) := [(12, av_qa (.ifCond .eq 7) 19), (15, av_q (.iconst 1)), (16, av_qa (.goto 4) 20), (19, av_q (.iconst 0)), (20, av_qa (.ireturn) 1)]
def cf_84 : Nat → Option av_E := (av_br 9 (av_lq cl_84_0) (av_lq cl_84_1))
set_option maxRecDepth 100000 in
set_option maxHeartbeats 4000000 in
theorem ck_84 : ∀ (pc : Nat) (x : av_E), cf_84 pc = some x → cd_84.lookup pc = some x := by
  have h : ∀ q ∈ cl_84_0 ++ (cl_84_1), cd_84.lookup q.1 = some q.2 := av_ascQ (cd := cd_84) (by decide +kernel)
  obtain ⟨h0, h⟩ := List.forall_mem_append.mp h
  have h1 := h
  exact (av_brP (av_lqP h0) (av_lqP h1))
def cl_85_0 : List (Nat × av_E) := [(0, av_q (.aload_n 0)), (1, av_qf (.getfield 31) 6 6 0), (4, av_q (.iconst (-1))), (5, av_qa (.if_icmp .ne 11) 16), (8, av_q (.aload_n 0)), (9, av_q (.aload_n 0))]
def cl_85_1 : List (Nat × av_E) := [(10, av_qf (.getfield 22) 6 3 0), (13, av_qf (.putfield 31) 6 6 0), (16, av_q (.return_))]
def cf_85 : Nat → Option av_E := (av_br 9 (av_lq cl_85_0) (av_lq cl_85_1))
set_option maxRecDepth 100000 in
set_option maxHeartbeats 4000000 in
theorem ck_85 : ∀ (pc : Nat) (x : av_E), cf_85 pc = some x → cd_85.lookup pc = some x := by
  have h : ∀ q ∈ cl_85_0 ++ (cl_85_1), cd_85.lookup q.1 = some q.2 := av_ascQ (cd := cd_85) (by decide +kernel)
  obtain ⟨h0, h⟩ := List.forall_mem_append.mp h
  have h1 := h
  exact (av_brP (av_lqP h0) (av_lqP h1))
def cl_86_0 : List (Nat × av_E) := [(0, av_q (.aload_n 0)), (1, av_qf (.getfield 31) 6 6 0), (4, av_q (.iconst (-1))), (5, av_qa (.if_icmp .ne 11) 16), (8, av_q (.aload_n 0)), (9, av_qf (.getfield 28) 6 5 0)]
def cl_86_1 : List (Nat × av_E) := [(12, av_q (.iconst 1)), (13, av_qa (.if_icmp .eq 5) 18), (16, av_q (.iconst (-1))), (17, av_q (.ireturn)), (18, av_q (.iconst 0)), (19, av_q (.istore_n 2))]
def cl_86_2 : List (Nat × av_E) := [(20, av_q (.aload_n 0)), (21, av_qf (.getfield 22) 6 3 0), (24, av_q (.istore_n 3)), (25, av_q (.iconst 1)), (26, av_q (.istore 4)), (28, av_q (.iconst 0))]
def cl_86_3 : List (Nat × av_E) := [(29, av_q (.istore 5)), (31, av_q (.iload 5)), (33, av_q (.aload_n 1)), (34, av_qa (.invokevirtual 45) 1005), (37, av_qa (.if_icmp .gt 101) 138), (40, av_q (.iload 5))]
def cl_86_4 : List (Nat × av_E) := [(42, av_q (.aload_n 1)), (43, av_qa (.invokevirtual 45) 1005), (46, av_qa (.if_icmp .ge 12) 58), (49, av_q (.aload_n 1)), (50, av_q (.iload 5)), (52, av_qa (.invokevirtual 50) 1006)]
def cl_86_5 : List (Nat × av_E) := [(55, av_qa (.goto 5) 60), (58, av_q (.bipush 32)), (60, av_q (.istore 6)), (62, av_q (.iload 6)), (64, av_q (.bipush 32)), (66, av_qa (.if_icmp .eq 40) 106)]
def cl_86_6 : List (Nat × av_E) := [(69, av_q (.iload 4)), (71, av_qa (.ifCond .eq 26) 97), (74, av_q (.iload_n 3)), (75, av_q (.aload_n 0)), (76, av_qf (.getfield 25) 6 4 0), (79, av_qa (.if_icmp .ge 18) 97)]
def cl_86_7 : List (Nat × av_E) := [(82, av_q (.aload_n 0)), (83, av_qf (.getfield 11) 6 0 2), (86, av_q (.iload_n 3)), (87, av_q (.baload)), (88, av_q (.iload 6)), (90, av_qa (.if_icmp .ne 7) 97)]
def cl_86_8 : List (Nat × av_E) := [(93, av_q (.iconst 1)), (94, av_qa (.goto 4) 98), (97, av_q (.iconst 0)), (98, av_q (.istore 4)), (100, av_q (.iinc 3 1)), (103, av_qa (.goto 29) 132)]
def cl_86_9 : List (Nat × av_E) := [(106, av_q (.iload 4)), (108, av_qa (.ifCond .eq 13) 121), (111, av_q (.iload_n 3)), (112, av_q (.aload_n 0)), (113, av_qf (.getfield 25) 6 4 0), (116, av_qa (.if_icmp .ne 5) 121)]
def cl_86_10 : List (Nat × av_E) := [(119, av_q (.iload_n 2)), (120, av_q (.ireturn)), (121, av_q (.iinc 2 1)), (124, av_q (.aload_n 0)), (125, av_qf (.getfield 22) 6 3 0), (128, av_q (.istore_n 3))]
def cl_86_11 : List (Nat × av_E) := [(129, av_q (.iconst 1)), (130, av_q (.istore 4)), (132, av_q (.iinc 5 1)), (135, av_qa (.goto (-104)) 31), (138, av_q (.iconst (-1))), (139, av_q (.ireturn))]
def cf_86 : Nat → Option av_E := (av_br 66 (av_br 28 (av_br 9 (av_lq cl_86_0) (av_br 19 (av_lq cl_86_1) (av_lq cl_86_2))) (av_br 40 (av_lq cl_86_3) (av_br 52 (av_lq cl_86_4) (av_lq cl_86_5)))) (av_br 103 (av_br 79 (av_lq cl_86_6) (av_br 90 (av_lq cl_86_7) (av_lq cl_86_8))) (av_br 116 (av_lq cl_86_9) (av_br 128 (av_lq cl_86_10) (av_lq cl_86_11)))))
set_option maxRecDepth 100000 in
set_option maxHeartbeats 4000000 in
theorem ck_86 : ∀ (pc : Nat) (x : av_E), cf_86 pc = some x → cd_86.lookup pc = some x := by
  have h : ∀ q ∈ cl_86_0 ++ (cl_86_1 ++ (cl_86_2 ++ (cl_86_3 ++ (cl_86_4 ++ (cl_86_5 ++ (cl_86_6 ++ (cl_86_7 ++ (cl_86_8 ++ (cl_86_9 ++ (cl_86_10 ++ (cl_86_11))))))))))), cd_86.lookup q.1 = some q.2 := av_ascQ (cd := cd_86) (by decide +kernel)
  obtain ⟨h0, h⟩ := List.forall_mem_append.mp h
  obtain ⟨h1, h⟩ := List.forall_mem_append.mp h
  obtain ⟨h2, h⟩ := List.forall_mem_append.mp h
  obtain ⟨h3, h⟩ := List.forall_mem_append.mp h
  obtain ⟨h4, h⟩ := List.forall_mem_append.mp h
  obtain ⟨h5, h⟩ := List.forall_mem_append.mp h
  obtain ⟨h6, h⟩ := List.forall_mem_append.mp h
  obtain ⟨h7, h⟩ := List.forall_mem_append.mp h
  obtain ⟨h8, h⟩ := List.forall_mem_append.mp h
  obtain ⟨h9, h⟩ := List.forall_mem_append.mp h
  obtain ⟨h10, h⟩ := List.forall_mem_append.mp h
  have h11 := h
  exact (av_brP (av_brP (av_brP (av_lqP h0) (av_brP (av_lqP h1) (av_lqP h2))) (av_brP (av_lqP h3) (av_brP (av_lqP h4) (av_lqP h5)))) (av_brP (av_brP (av_lqP h6) (av_brP (av_lqP h7) (av_lqP h8))) (av_brP (av_lqP h9) (av_brP (av_lqP h10) (av_lqP h11)))))
def cl_87_0 : List (Nat × av_E) := [(0, av_q (.aload_n 0)), (1, av_q (.aload_n 1)), (2, av_qc (.invokevirtual 54) 86 1 0 6), (5, av_q (.istore_n 2)), (6, av_q (.iload_n 2)), (7, av_q (.iconst (-1)))]
def cl_87_1 : List (Nat × av_E) := [(8, av_qa (.if_icmp .ne 10) 18), (11, av_q (.aload_n 0)), (12, av_qc (.invokevirtual 58) 85 0 0 6), (15, av_qa (.goto 7) 22), (18, av_q (.aload_n 0)), (19, av_qc (.invokevirtual 38) 82 0 0 6)]
def cl_87_2 : List (Nat × av_E) := [(22, av_q (.iload_n 2)), (23, av_q (.ireturn))]
def cf_87 : Nat → Option av_E := (av_br 7 (av_lq cl_87_0) (av_br 19 (av_lq cl_87_1) (av_lq cl_87_2)))
set_option maxRecDepth 100000 in
set_option maxHeartbeats 4000000 in
theorem ck_87 : ∀ (pc : Nat) (x : av_E), cf_87 pc = some x → cd_87.lookup pc = some x := by
  have h : ∀ q ∈ cl_87_0 ++ (cl_87_1 ++ (cl_87_2)), cd_87.lookup q.1 = some q.2 := av_ascQ (cd := cd_87) (by decide +kernel)
  obtain ⟨h0, h⟩ := List.forall_mem_append.mp h
  obtain ⟨h1, h⟩ := List.forall_mem_append.mp h
  have h2 := h
  exact (av_brP (av_lqP h0) (av_brP (av_lqP h1) (av_lqP h2)))
def cl_88_0 : List (Nat × av_E) := [(0, av_q (.aload_n 0)), (1, av_q (.aload_n 1)), (2, av_qc (.invokevirtual 54) 86 1 0 6), (5, av_q (.iconst (-1))), (6, av_qa (.if_icmp .ne 5) 11), (9, av_q (.iconst 0))]
def cl_88_1 : List (Nat × av_E) := [(10, av_qa (.ireturn) 1), (11, av_q (.aload_n 0)), (12, av_qc (.invokevirtual 38) 82 0 0 6), (15, av_q (.iconst 1)), (16, av_qa (.ireturn) 1)]
def cf_88 : Nat → Option av_E := (av_br 9 (av_lq cl_88_0) (av_lq cl_88_1))
set_option maxRecDepth 100000 in
set_option maxHeartbeats 4000000 in
theorem ck_88 : ∀ (pc : Nat) (x : av_E), cf_88 pc = some x → cd_88.lookup pc = some x := by
  have h : ∀ q ∈ cl_88_0 ++ (cl_88_1), cd_88.lookup q.1 = some q.2 := av_ascQ (cd := cd_88) (by decide +kernel)
  obtain ⟨h0, h⟩ := List.forall_mem_append.mp h
  have h1 := h
  exact (av_brP (av_lqP h0) (av_lqP h1))
def cl_89_0 : List (Nat × av_E) := [(0, av_q (.aload_n 0)), (1, av_q (.aload_n 1)), (2, av_qc (.invokevirtual 54) 86 1 0 6), (5, av_q (.iconst (-1))), (6, av_qa (.if_icmp .ne 10) 16), (9, av_q (.aload_n 0))]
def cl_89_1 : List (Nat × av_E) := [(10, av_qc (.invokevirtual 58) 85 0 0 6), (13, av_qa (.goto 7) 20), (16, av_q (.aload_n 0)), (17, av_qc (.invokevirtual 38) 82 0 0 6), (20, av_q (.return_))]
def cf_89 : Nat → Option av_E := (av_br 9 (av_lq cl_89_0) (av_lq cl_89_1))
set_option maxRecDepth 100000 in
set_option maxHeartbeats 4000000 in
theorem ck_89 : ∀ (pc : Nat) (x : av_E), cf_89 pc = some x → cd_89.lookup pc = some x := by
  have h : ∀ q ∈ cl_89_0 ++ (cl_89_1), cd_89.lookup q.1 = some q.2 := av_ascQ (cd := cd_89) (by decide +kernel)
  obtain ⟨h0, h⟩ := List.forall_mem_append.mp h
  have h1 := h
  exact (av_brP (av_lqP h0) (av_lqP h1))
def cl_90_0 : List (Nat × av_E) := [(0, av_q (.aload_n 0)), (1, av_qf (.getfield 31) 6 6 0), (4, av_q (.iconst (-1))), (5, av_qa (.if_icmp .ne 18) 23), (8, av_q (.aload_n 0)), (9, av_qf (.getfield 28) 6 5 0)]
def cl_90_1 : List (Nat × av_E) := [(12, av_q (.iconst 3)), (13, av_qa (.if_icmp .ne 10) 23), (16, av_q (.aload_n 0)), (17, av_qc (.invokevirtual 38) 82 0 0 6), (20, av_qa (.goto 7) 27), (23, av_q (.aload_n 0))]
def cl_90_2 : List (Nat × av_E) := [(24, av_qc (.invokevirtual 58) 85 0 0 6), (27, av_q (.return_))]
def cf_90 : Nat → Option av_E := (av_br 9 (av_lq cl_90_0) (av_br 23 (av_lq cl_90_1) (av_lq cl_90_2)))
set_option maxRecDepth 100000 in
set_option maxHeartbeats 4000000 in
theorem ck_90 : ∀ (pc : Nat) (x : av_E), cf_90 pc = some x → cd_90.lookup pc = some x := by
  have h : ∀ q ∈ cl_90_0 ++ (cl_90_1 ++ (cl_90_2)), cd_90.lookup q.1 = some q.2 := av_ascQ (cd := cd_90) (by decide +kernel)
  obtain ⟨h0, h⟩ := List.forall_mem_append.mp h
  obtain ⟨h1, h⟩ := List.forall_mem_append.mp h
  have h2 := h
  exact (av_brP (av_lqP h0) (av_brP (av_lqP h1) (av_lqP h2)))
def cl_91_0 : List (Nat × av_E) := [(0, av_q (.aload_n 0)), (1, av_qf (.getfield 31) 6 6 0), (4, av_q (.iconst (-1))), (5, av_qa (.if_icmp .ne 24) 29), (8, av_q (.aload_n 0)), (9, av_qf (.getfield 28) 6 5 0)]
def cl_91_1 : List (Nat × av_E) := [(12, av_q (.iconst 2)), (13, av_qa (.if_icmp .ne 16) 29), (16, av_q (.aload_n 0)), (17, av_qf (.getfield 25) 6 4 0), (20, av_q (.aload_n 0)), (21, av_qf (.getfield 22) 6 3 0)]
def cl_91_2 : List (Nat × av_E) := [(24, av_q (.isub)), (25, av_q (.iconst 4)), (26, av_qa (.if_icmp .le 5) 31), (29, av_q (.iconst (-1))), (30, av_q (.ireturn)), (31, av_q (.iconst 0))]
def cl_91_3 : List (Nat × av_E) := [(32, av_q (.istore_n 1)), (33, av_q (.aload_n 0)), (34, av_qf (.getfield 22) 6 3 0), (37, av_q (.istore_n 2)), (38, av_q (.iload_n 2)), (39, av_q (.aload_n 0))]
def cl_91_4 : List (Nat × av_E) := [(40, av_qf (.getfield 25) 6 4 0), (43, av_qa (.if_icmp .ge 24) 67), (46, av_q (.iload_n 1)), (47, av_q (.bipush 10)), (49, av_q (.imul)), (50, av_q (.aload_n 0))]
def cl_91_5 : List (Nat × av_E) := [(51, av_qf (.getfield 11) 6 0 2), (54, av_q (.iload_n 2)), (55, av_q (.baload)), (56, av_q (.iadd)), (57, av_q (.bipush 48)), (59, av_q (.isub))]
def cl_91_6 : List (Nat × av_E) := [(60, av_q (.istore_n 1)), (61, av_q (.iinc 2 1)), (64, av_qa (.goto (-26)) 38), (67, av_q (.iload_n 1)), (68, av_q (.ireturn))]
def cf_91 : Nat → Option av_E := (av_br 31 (av_br 9 (av_lq cl_91_0) (av_br 21 (av_lq cl_91_1) (av_lq cl_91_2))) (av_br 50 (av_br 39 (av_lq cl_91_3) (av_lq cl_91_4)) (av_br 59 (av_lq cl_91_5) (av_lq cl_91_6))))
set_option maxRecDepth 100000 in
set_option maxHeartbeats 4000000 in
theorem ck_91 : ∀ (pc : Nat) (x : av_E), cf_91 pc = some x → cd_91.lookup pc = some x := by
  have h : ∀ q ∈ cl_91_0 ++ (cl_91_1 ++ (cl_91_2 ++ (cl_91_3 ++ (cl_91_4 ++ (cl_91_5 ++ (cl_91_6)))))), cd_91.lookup q.1 = some q.2 := av_ascQ (cd := cd_91) (by decide +kernel)
  obtain ⟨h0, h⟩ := List.forall_mem_append.mp h
  obtain ⟨h1, h⟩ := List.forall_mem_append.mp h
  obtain ⟨h2, h⟩ := List.forall_mem_append.mp h
  obtain ⟨h3, h⟩ := List.forall_mem_append.mp h
  obtain ⟨h4, h⟩ := List.forall_mem_append.mp h
  obtain ⟨h5, h⟩ := List.forall_mem_append.mp h
  have h6 := h
  exact (av_brP (av_brP (av_lqP h0) (av_brP (av_lqP h1) (av_lqP h2))) (av_brP (av_brP (av_lqP h3) (av_lqP h4)) (av_brP (av_lqP h5) (av_lqP h6))))
def cl_92_0 : List (Nat × av_E) := [(0, av_q (.aload_n 0)), (1, av_qc (.invokevirtual 61) 91 0 0 6), (4, av_q (.istore_n 3)), (5, av_q (.iload_n 3)), (6, av_q (.iconst (-1))), (7, av_qa (.if_icmp .eq 13) 20)]
def cl_92_1 : List (Nat × av_E) := [(10, av_q (.iload_n 3)), (11, av_q (.iload_n 1)), (12, av_qa (.if_icmp .lt 8) 20), (15, av_q (.iload_n 3)), (16, av_q (.iload_n 2)), (17, av_qa (.if_icmp .le 9) 26)]
def cl_92_2 : List (Nat × av_E) := [(20, av_q (.aload_n 0)), (21, av_qc (.invokevirtual 58) 85 0 0 6), (24, av_q (.iconst (-1))), (25, av_q (.ireturn)), (26, av_q (.aload_n 0)), (27, av_qc (.invokevirtual 38) 82 0 0 6)]
def cl_92_3 : List (Nat × av_E) := [(30, av_q (.iload_n 3)), (31, av_q (.ireturn))]
def cf_92 : Nat → Option av_E := (av_br 17 (av_br 7 (av_lq cl_92_0) (av_lq cl_92_1)) (av_br 27 (av_lq cl_92_2) (av_lq cl_92_3)))
set_option maxRecDepth 100000 in
set_option maxHeartbeats 4000000 in
theorem ck_92 : ∀ (pc : Nat) (x : av_E), cf_92 pc = some x → cd_92.lookup pc = some x := by
  have h : ∀ q ∈ cl_92_0 ++ (cl_92_1 ++ (cl_92_2 ++ (cl_92_3))), cd_92.lookup q.1 = some q.2 := av_ascQ (cd := cd_92) (by decide +kernel)
  obtain ⟨h0, h⟩ := List.forall_mem_append.mp h
  obtain ⟨h1, h⟩ := List.forall_mem_append.mp h
  obtain ⟨h2, h⟩ := List.forall_mem_append.mp h
  have h3 := h
  exact (av_brP (av_brP (av_lqP h0) (av_lqP h1)) (av_brP (av_lqP h2) (av_lqP h3)))
def cl_94_0 : List (Nat × av_E) := [(0, av_q (.aload_n 0)), (1, av_qf (.getfield 10) 7 0 2), (4, av_qf (.getfield 68) 6 1 0), (7, av_q (.bipush 20)), (9, av_q (.iadd)), (10, av_q (.sipush 900))]
def cl_94_1 : List (Nat × av_E) := [(13, av_qa (.if_icmp .le 5) 18), (16, av_q (.iconst (-1))), (17, av_q (.ireturn)), (18, av_q (.aload_n 0)), (19, av_qf (.getfield 10) 7 0 2), (22, av_q (.iload_n 1))]
def cl_94_2 : List (Nat × av_E) := [(23, av_qc (.invokevirtual 71) 79 1 0 6), (26, av_q (.aload_n 0)), (27, av_qf (.getfield 10) 7 0 2), (30, av_q (.iload_n 2)), (31, av_qc (.invokevirtual 71) 79 1 0 6), (34, av_q (.aload_n 0))]
def cl_94_3 : List (Nat × av_E) := [(35, av_qf (.getfield 10) 7 0 2), (38, av_q (.iload_n 3)), (39, av_qc (.invokevirtual 71) 79 1 0 6), (42, av_q (.aload_n 0)), (43, av_qf (.getfield 10) 7 0 2), (46, av_q (.iload 4))]
def cl_94_4 : List (Nat × av_E) := [(48, av_qc (.invokevirtual 71) 79 1 0 6), (51, av_q (.aload_n 0)), (52, av_qf (.getfield 10) 7 0 2), (55, av_q (.iload 5)), (57, av_qc (.invokevirtual 71) 79 1 0 6), (60, av_q (.aload_n 0))]
def cl_94_5 : List (Nat × av_E) := [(61, av_qf (.getfield 10) 7 0 2), (64, av_qf (.getfield 68) 6 1 0), (67, av_q (.ireturn))]
def cf_94 : Nat → Option av_E := (av_br 34 (av_br 10 (av_lq cl_94_0) (av_br 22 (av_lq cl_94_1) (av_lq cl_94_2))) (av_br 46 (av_lq cl_94_3) (av_br 60 (av_lq cl_94_4) (av_lq cl_94_5))))
set_option maxRecDepth 100000 in
set_option maxHeartbeats 4000000 in
theorem ck_94 : ∀ (pc : Nat) (x : av_E), cf_94 pc = some x → cd_94.lookup pc = some x := by
  have h : ∀ q ∈ cl_94_0 ++ (cl_94_1 ++ (cl_94_2 ++ (cl_94_3 ++ (cl_94_4 ++ (cl_94_5))))), cd_94.lookup q.1 = some q.2 := av_ascQ (cd := cd_94) (by decide +kernel)
  obtain ⟨h0, h⟩ := List.forall_mem_append.mp h
  obtain ⟨h1, h⟩ := List.forall_mem_append.mp h
  obtain ⟨h2, h⟩ := List.forall_mem_append.mp h
  obtain ⟨h3, h⟩ := List.forall_mem_append.mp h
  obtain ⟨h4, h⟩ := List.forall_mem_append.mp h
  have h5 := h
  exact (av_brP (av_brP (av_lqP h0) (av_brP (av_lqP h1) (av_lqP h2))) (av_brP (av_lqP h3) (av_brP (av_lqP h4) (av_lqP h5))))
def cl_95_0 : List (Nat × av_E) := [(0, av_q (.aload_n 0)), (1, av_qf (.getfield 10) 7 0 2), (4, av_q (.iload_n 1)), (5, av_qc (.invokevirtual 75) 80 1 0 6), (8, av_qa (.ifCond .ne 6) 14), (11, av_q (.bipush (-2)))]
def cl_95_1 : List (Nat × av_E) := [(13, av_q (.ireturn)), (14, av_q (.aload_n 0)), (15, av_qf (.getfield 19) 7 1 2), (18, av_qf (.getfield 79) 5 3 0), (21, av_q (.bipush 16)), (23, av_qa (.if_icmp .lt 6) 29)]
def cl_95_2 : List (Nat × av_E) := [(26, av_q (.bipush (-3))), (28, av_q (.ireturn)), (29, av_q (.aload_n 0)), (30, av_qf (.getfield 10) 7 0 2), (33, av_q (.iload_n 1)), (34, av_qc (.invokevirtual 82) 81 1 0 6)]
def cl_95_3 : List (Nat × av_E) := [(37, av_q (.aload_n 0)), (38, av_qf (.getfield 32) 7 3 2), (41, av_q (.aload_n 0)), (42, av_qf (.getfield 57) 7 6 2), (45, av_q (.aload_n 0)), (46, av_qf (.getfield 19) 7 1 2)]
def cl_95_4 : List (Nat × av_E) := [(49, av_qf (.getfield 79) 5 3 0), (52, av_qc (.invokevirtual 85) 35 2 0 2), (55, av_q (.astore_n 2)), (56, av_q (.aload_n 0)), (57, av_qc (.invokevirtual 89) 99 0 0 7), (60, av_q (.aload_n 2))]
def cl_95_5 : List (Nat × av_E) := [(61, av_qa (.ifnonnull 7) 68), (64, av_q (.iconst (-1))), (65, av_qa (.goto 11) 76), (68, av_q (.aload_n 0)), (69, av_qf (.getfield 19) 7 1 2), (72, av_q (.aload_n 2))]
def cl_95_6 : List (Nat × av_E) := [(73, av_qc (.invokevirtual 92) 71 1 0 5), (76, av_q (.ireturn))]
def cf_95 : Nat → Option av_E := (av_br 34 (av_br 11 (av_lq cl_95_0) (av_br 23 (av_lq cl_95_1) (av_lq cl_95_2))) (av_br 60 (av_br 46 (av_lq cl_95_3) (av_lq cl_95_4)) (av_br 72 (av_lq cl_95_5) (av_lq cl_95_6))))
set_option maxRecDepth 100000 in
set_option maxHeartbeats 4000000 in
theorem ck_95 : ∀ (pc : Nat) (x : av_E), cf_95 pc = some x → cd_95.lookup pc = some x := by
  have h : ∀ q ∈ cl_95_0 ++ (cl_95_1 ++ (cl_95_2 ++ (cl_95_3 ++ (cl_95_4 ++ (cl_95_5 ++ (cl_95_6)))))), cd_95.lookup q.1 = some q.2 := av_ascQ (cd := cd_95) (by decide +kernel)
  obtain ⟨h0, h⟩ := List.forall_mem_append.mp h
  obtain ⟨h1, h⟩ := List.forall_mem_append.mp h
  obtain ⟨h2, h⟩ := List.forall_mem_append.mp h
  obtain ⟨h3, h⟩ := List.forall_mem_append.mp h
  obtain ⟨h4, h⟩ := List.forall_mem_append.mp h
  obtain ⟨h5, h⟩ := List.forall_mem_append.mp h
  have h6 := h
  exact (av_brP (av_brP (av_lqP h0) (av_brP (av_lqP h1) (av_lqP h2))) (av_brP (av_brP (av_lqP h3) (av_lqP h4)) (av_brP (av_lqP h5) (av_lqP h6))))
def cl_96_0 : List (Nat × av_E) := [(0, av_q (.aload_n 0)), (1, av_qf (.getfield 19) 7 1 2), (4, av_q (.iload_n 1)), (5, av_qc (.invokevirtual 96) 69 1 0 5), (8, av_q (.astore_n 3)), (9, av_q (.aload_n 3))]
def cl_96_1 : List (Nat × av_E) := [(10, av_qa (.ifnull 14) 24), (13, av_q (.aload_n 0)), (14, av_qf (.getfield 10) 7 0 2), (17, av_q (.iload_n 2)), (18, av_qc (.invokevirtual 75) 80 1 0 6), (21, av_qa (.ifCond .ne 6) 27)]
def cl_96_2 : List (Nat × av_E) := [(24, av_q (.bipush (-2))), (26, av_q (.ireturn)), (27, av_q (.aload_n 0)), (28, av_qf (.getfield 10) 7 0 2), (31, av_q (.iload_n 2)), (32, av_qc (.invokevirtual 82) 81 1 0 6)]
def cl_96_3 : List (Nat × av_E) := [(35, av_q (.aload_n 0)), (36, av_qf (.getfield 32) 7 3 2), (39, av_q (.aload_n 3)), (40, av_q (.iload_n 1)), (41, av_qc (.invokevirtual 85) 35 2 0 2), (44, av_q (.astore 4))]
def cl_96_4 : List (Nat × av_E) := [(46, av_q (.aload_n 0)), (47, av_qc (.invokevirtual 89) 99 0 0 7), (50, av_q (.aload 4)), (52, av_qa (.ifnonnull 5) 57), (55, av_q (.iconst (-1))), (56, av_q (.ireturn))]
def cl_96_5 : List (Nat × av_E) := [(57, av_q (.aload_n 0)), (58, av_qf (.getfield 19) 7 1 2), (61, av_qf (.getfield 100) 5 0 2), (64, av_q (.iload_n 1)), (65, av_q (.aload 4)), (67, av_q (.aastore))]
def cl_96_6 : List (Nat × av_E) := [(68, av_q (.aload_n 0)), (69, av_qf (.getfield 48) 7 5 2), (72, av_qc (.invokevirtual 104) 46 0 0 3), (75, av_q (.aload 4)), (77, av_qf (.getfield 107) 1 1 0), (80, av_q (.ireturn))]
def cf_96 : Nat → Option av_E := (av_br 32 (av_br 9 (av_lq cl_96_0) (av_br 21 (av_lq cl_96_1) (av_lq cl_96_2))) (av_br 56 (av_br 44 (av_lq cl_96_3) (av_lq cl_96_4)) (av_br 67 (av_lq cl_96_5) (av_lq cl_96_6))))
set_option maxRecDepth 100000 in
set_option maxHeartbeats 4000000 in
theorem ck_96 : ∀ (pc : Nat) (x : av_E), cf_96 pc = some x → cd_96.lookup pc = some x := by
  have h : ∀ q ∈ cl_96_0 ++ (cl_96_1 ++ (cl_96_2 ++ (cl_96_3 ++ (cl_96_4 ++ (cl_96_5 ++ (cl_96_6)))))), cd_96.lookup q.1 = some q.2 := av_ascQ (cd := cd_96) (by decide +kernel)
  obtain ⟨h0, h⟩ := List.forall_mem_append.mp h
  obtain ⟨h1, h⟩ := List.forall_mem_append.mp h
  obtain ⟨h2, h⟩ := List.forall_mem_append.mp h
  obtain ⟨h3, h⟩ := List.forall_mem_append.mp h
  obtain ⟨h4, h⟩ := List.forall_mem_append.mp h
  obtain ⟨h5, h⟩ := List.forall_mem_append.mp h
  have h6 := h
  exact (av_brP (av_brP (av_lqP h0) (av_brP (av_lqP h1) (av_lqP h2))) (av_brP (av_brP (av_lqP h3) (av_lqP h4)) (av_brP (av_lqP h5) (av_lqP h6))))
def cl_97_0 : List (Nat × av_E) := [(0, av_q (.aload_n 0)), (1, av_qf (.getfield 10) 7 0 2), (4, av_q (.iload_n 1)), (5, av_qc (.invokevirtual 75) 80 1 0 6), (8, av_qa (.ifCond .ne 6) 14), (11, av_q (.bipush (-2)))]
def cl_97_1 : List (Nat × av_E) := [(13, av_q (.ireturn)), (14, av_q (.aload_n 0)), (15, av_qf (.getfield 19) 7 1 2), (18, av_qf (.getfield 110) 5 4 0), (21, av_q (.bipush 8)), (23, av_qa (.if_icmp .lt 6) 29)]
def cl_97_2 : List (Nat × av_E) := [(26, av_q (.bipush (-3))), (28, av_q (.ireturn)), (29, av_q (.aload_n 0)), (30, av_qf (.getfield 10) 7 0 2), (33, av_q (.iload_n 1)), (34, av_qc (.invokevirtual 82) 81 1 0 6)]
def cl_97_3 : List (Nat × av_E) := [(37, av_q (.aload_n 0)), (38, av_qf (.getfield 39) 7 4 2), (41, av_q (.iconst 0)), (42, av_qc (.invokevirtual 113) 65 1 0 4), (45, av_q (.istore_n 2)), (46, av_q (.aload_n 0))]
def cl_97_4 : List (Nat × av_E) := [(47, av_qc (.invokevirtual 89) 99 0 0 7), (50, av_q (.iload_n 2)), (51, av_qa (.ifCond .eq 20) 71), (54, av_q (.aload_n 0)), (55, av_qf (.getfield 19) 7 1 2), (58, av_q (.aload_n 0))]
def cl_97_5 : List (Nat × av_E) := [(59, av_qf (.getfield 39) 7 4 2), (62, av_qf (.getfield 116) 4 1 2), (65, av_qc (.invokevirtual 120) 72 1 0 5), (68, av_qa (.goto 4) 72), (71, av_q (.iconst (-1))), (72, av_q (.ireturn))]
def cf_97 : Nat → Option av_E := (av_br 34 (av_br 11 (av_lq cl_97_0) (av_br 23 (av_lq cl_97_1) (av_lq cl_97_2))) (av_br 46 (av_lq cl_97_3) (av_br 58 (av_lq cl_97_4) (av_lq cl_97_5))))
set_option maxRecDepth 100000 in
set_option maxHeartbeats 4000000 in
theorem ck_97 : ∀ (pc : Nat) (x : av_E), cf_97 pc = some x → cd_97.lookup pc = some x := by
  have h : ∀ q ∈ cl_97_0 ++ (cl_97_1 ++ (cl_97_2 ++ (cl_97_3 ++ (cl_97_4 ++ (cl_97_5))))), cd_97.lookup q.1 = some q.2 := av_ascQ (cd := cd_97) (by decide +kernel)
  obtain ⟨h0, h⟩ := List.forall_mem_append.mp h
  obtain ⟨h1, h⟩ := List.forall_mem_append.mp h
  obtain ⟨h2, h⟩ := List.forall_mem_append.mp h
  obtain ⟨h3, h⟩ := List.forall_mem_append.mp h
  obtain ⟨h4, h⟩ := List.forall_mem_append.mp h
  have h5 := h
  exact (av_brP (av_brP (av_lqP h0) (av_brP (av_lqP h1) (av_lqP h2))) (av_brP (av_lqP h3) (av_brP (av_lqP h4) (av_lqP h5))))
def cl_98_0 : List (Nat × av_E) := [(0, av_q (.aload_n 0)), (1, av_qf (.getfield 10) 7 0 2), (4, av_q (.iload_n 1)), (5, av_qc (.invokevirtual 75) 80 1 0 6), (8, av_qa (.ifCond .ne 6) 14), (11, av_q (.bipush (-2)))]
def cl_98_1 : List (Nat × av_E) := [(13, av_q (.ireturn)), (14, av_q (.aload_n 0)), (15, av_qf (.getfield 19) 7 1 2), (18, av_qf (.getfield 124) 5 5 0), (21, av_q (.bipush 6)), (23, av_qa (.if_icmp .lt 6) 29)]
def cl_98_2 : List (Nat × av_E) := [(26, av_q (.bipush (-3))), (28, av_q (.ireturn)), (29, av_q (.aload_n 0)), (30, av_qf (.getfield 10) 7 0 2), (33, av_q (.iload_n 1)), (34, av_qc (.invokevirtual 82) 81 1 0 6)]
def cl_98_3 : List (Nat × av_E) := [(37, av_q (.aload_n 0)), (38, av_qf (.getfield 39) 7 4 2), (41, av_q (.iconst 1)), (42, av_qc (.invokevirtual 113) 65 1 0 4), (45, av_q (.istore_n 2)), (46, av_q (.aload_n 0))]
def cl_98_4 : List (Nat × av_E) := [(47, av_qc (.invokevirtual 89) 99 0 0 7), (50, av_q (.iload_n 2)), (51, av_qa (.ifCond .eq 20) 71), (54, av_q (.aload_n 0)), (55, av_qf (.getfield 19) 7 1 2), (58, av_q (.aload_n 0))]
def cl_98_5 : List (Nat × av_E) := [(59, av_qf (.getfield 39) 7 4 2), (62, av_qf (.getfield 116) 4 1 2), (65, av_qc (.invokevirtual 127) 73 1 0 5), (68, av_qa (.goto 4) 72), (71, av_q (.iconst (-1))), (72, av_q (.ireturn))]
def cf_98 : Nat → Option av_E := (av_br 34 (av_br 11 (av_lq cl_98_0) (av_br 23 (av_lq cl_98_1) (av_lq cl_98_2))) (av_br 46 (av_lq cl_98_3) (av_br 58 (av_lq cl_98_4) (av_lq cl_98_5))))
set_option maxRecDepth 100000 in
set_option maxHeartbeats 4000000 in
theorem ck_98 : ∀ (pc : Nat) (x : av_E), cf_98 pc = some x → cd_98.lookup pc = some x := by
  have h : ∀ q ∈ cl_98_0 ++ (cl_98_1 ++ (cl_98_2 ++ (cl_98_3 ++ (cl_98_4 ++ (cl_98_5))))), cd_98.lookup q.1 = some q.2 := av_ascQ (cd := cd_98) (by decide +kernel)
  obtain ⟨h0, h⟩ := List.forall_mem_append.mp h
  obtain ⟨h1, h⟩ := List.forall_mem_append.mp h
  obtain ⟨h2, h⟩ := List.forall_mem_append.mp h
  obtain ⟨h3, h⟩ := List.forall_mem_append.mp h
  obtain ⟨h4, h⟩ := List.forall_mem_append.mp h
  have h5 := h
  exact (av_brP (av_brP (av_lqP h0) (av_brP (av_lqP h1) (av_lqP h2))) (av_brP (av_lqP h3) (av_brP (av_lqP h4) (av_lqP h5))))
def cl_99_0 : List (Nat × av_E) := [(0, av_q (.aload_n 0)), (1, av_q (.aload_n 0)), (2, av_qf (.getfield 10) 7 0 2), (5, av_qf (.getfield 130) 6 6 0), (8, av_qf (.putfield 65) 7 8 0), (11, av_q (.aload_n 0))]
def cl_99_1 : List (Nat × av_E) := [(12, av_qf (.getfield 10) 7 0 2), (15, av_q (.iconst 0)), (16, av_qf (.putfield 68) 6 1 0), (19, av_q (.return_))]
def cf_99 : Nat → Option av_E := (av_br 11 (av_lq cl_99_0) (av_lq cl_99_1))
set_option maxRecDepth 100000 in
set_option maxHeartbeats 4000000 in
theorem ck_99 : ∀ (pc : Nat) (x : av_E), cf_99 pc = some x → cd_99.lookup pc = some x := by
  have h : ∀ q ∈ cl_99_0 ++ (cl_99_1), cd_99.lookup q.1 = some q.2 := av_ascQ (cd := cd_99) (by decide +kernel)
  obtain ⟨h0, h⟩ := List.forall_mem_append.mp h
  have h1 := h
  exact (av_brP (av_lqP h0) (av_lqP h1))
def cl_101_0 : List (Nat × av_E) := [(0, av_q (.aload_n 0)), (1, av_qf (.getfield 19) 7 1 2), (4, av_q (.iload_n 1)), (5, av_qc (.invokevirtual 96) 69 1 0 5), (8, av_q (.astore 4)), (10, av_q (.iload_n 3))]
def cl_101_1 : List (Nat × av_E) := [(11, av_qa (.ifCond .lt 9) 20), (14, av_q (.iload_n 3)), (15, av_q (.bipush 6)), (17, av_qa (.if_icmp .le 10) 27), (20, av_q (.iload_n 3)), (21, av_qc (.invokestatic 133) 102 1 2 7)]
def cl_101_2 : List (Nat × av_E) := [(24, av_qa (.ifCond .eq 7) 31), (27, av_q (.iconst 1)), (28, av_qa (.goto 4) 32), (31, av_q (.iconst 0)), (32, av_q (.istore 5)), (34, av_q (.aload 4))]
def cl_101_3 : List (Nat × av_E) := [(36, av_qa (.ifnull 17) 53), (39, av_q (.aload 4)), (41, av_q (.iload_n 2)), (42, av_qc (.invokevirtual 136) 28 1 0 1), (45, av_qa (.ifCond .eq 8) 53), (48, av_q (.iload 5))]
def cl_101_4 : List (Nat × av_E) := [(50, av_qa (.ifCond .ne 6) 56), (53, av_q (.bipush (-2))), (55, av_q (.ireturn)), (56, av_q (.aload 4)), (58, av_q (.iload_n 2)), (59, av_q (.iload_n 3))]
def cl_101_5 : List (Nat × av_E) := [(60, av_qc (.invokevirtual 139) 29 2 0 1), (63, av_q (.ireturn))]
def cf_101 : Nat → Option av_E := (av_br 34 (av_br 10 (av_lq cl_101_0) (av_br 21 (av_lq cl_101_1) (av_lq cl_101_2))) (av_br 48 (av_lq cl_101_3) (av_br 59 (av_lq cl_101_4) (av_lq cl_101_5))))
set_option maxRecDepth 100000 in
set_option maxHeartbeats 4000000 in
theorem ck_101 : ∀ (pc : Nat) (x : av_E), cf_101 pc = some x → cd_101.lookup pc = some x := by
  have h : ∀ q ∈ cl_101_0 ++ (cl_101_1 ++ (cl_101_2 ++ (cl_101_3 ++ (cl_101_4 ++ (cl_101_5))))), cd_101.lookup q.1 = some q.2 := av_ascQ (cd := cd_101) (by decide +kernel)
  obtain ⟨h0, h⟩ := List.forall_mem_append.mp h
  obtain ⟨h1, h⟩ := List.forall_mem_append.mp h
  obtain ⟨h2, h⟩ := List.forall_mem_append.mp h
  obtain ⟨h3, h⟩ := List.forall_mem_append.mp h
  obtain ⟨h4, h⟩ := List.forall_mem_append.mp h
  have h5 := h
  exact (av_brP (av_brP (av_lqP h0) (av_brP (av_lqP h1) (av_lqP h2))) (av_brP (av_lqP h3) (av_brP (av_lqP h4) (av_lqP h5))))
def cl_102_0 : List (Nat × av_E) := [(0, av_q (.iload_n 0)), (1, av_q (.bipush 10)), (3, av_qa (.if_icmp .lt 13) 16), (6, av_q (.iload_n 0)), (7, av_q (.bipush 15)), (9, av_qa (.if_icmp .ge 7) 16)]
def cl_102_1 : List (Nat × av_E) := [(12, av_q (.iconst 1)), (13, av_qa (.goto 4) 17), (16, av_q (.iconst 0)), (17, av_qa (.ireturn) 1)]
def cf_102 : Nat → Option av_E := (av_br 9 (av_lq cl_102_0) (av_lq cl_102_1))
set_option maxRecDepth 100000 in
set_option maxHeartbeats 4000000 in
theorem ck_102 : ∀ (pc : Nat) (x : av_E), cf_102 pc = some x → cd_102.lookup pc = some x := by
  have h : ∀ q ∈ cl_102_0 ++ (cl_102_1), cd_102.lookup q.1 = some q.2 := av_ascQ (cd := cd_102) (by decide +kernel)
  obtain ⟨h0, h⟩ := List.forall_mem_append.mp h
  have h1 := h
  exact (av_brP (av_lqP h0) (av_lqP h1))
def cl_103_0 : List (Nat × av_E) := [(0, av_q (.aload_n 0)), (1, av_qf (.getfield 19) 7 1 2), (4, av_q (.iload_n 1)), (5, av_qc (.invokevirtual 96) 69 1 0 5), (8, av_q (.astore_n 3)), (9, av_q (.aload_n 3))]
def cl_103_1 : List (Nat × av_E) := [(10, av_qa (.ifnonnull 6) 16), (13, av_q (.bipush (-2))), (15, av_q (.ireturn)), (16, av_q (.iload_n 2)), (17, av_qw (.tableswitch 42 0 2 #[27, 32, 37]) 27), (44, av_q (.aload_n 3))]
def cl_103_2 : List (Nat × av_E) := [(45, av_qf (.getfield 107) 1 1 0), (48, av_q (.ireturn)), (49, av_q (.aload_n 3)), (50, av_qf (.getfield 143) 1 2 0), (53, av_q (.ireturn)), (54, av_q (.aload_n 3))]
def cl_103_3 : List (Nat × av_E) := [(55, av_qf (.getfield 146) 1 3 0), (58, av_q (.ireturn)), (59, av_q (.bipush (-2))), (61, av_q (.ireturn))]
def cf_103 : Nat → Option av_E := (av_br 44 (av_br 9 (av_lq cl_103_0) (av_lq cl_103_1)) (av_br 54 (av_lq cl_103_2) (av_lq cl_103_3)))
set_option maxRecDepth 100000 in
set_option maxHeartbeats 4000000 in
theorem ck_103 : ∀ (pc : Nat) (x : av_E), cf_103 pc = some x → cd_103.lookup pc = some x := by
  have h : ∀ q ∈ cl_103_0 ++ (cl_103_1 ++ (cl_103_2 ++ (cl_103_3))), cd_103.lookup q.1 = some q.2 := av_ascQ (cd := cd_103) (by decide +kernel)
  obtain ⟨h0, h⟩ := List.forall_mem_append.mp h
  obtain ⟨h1, h⟩ := List.forall_mem_append.mp h
  obtain ⟨h2, h⟩ := List.forall_mem_append.mp h
  have h3 := h
  exact (av_brP (av_brP (av_lqP h0) (av_lqP h1)) (av_brP (av_lqP h2) (av_lqP h3)))
def cl_104_0 : List (Nat × av_E) := [(0, av_q (.aload_n 0)), (1, av_qf (.getfield 19) 7 1 2), (4, av_q (.iload_n 1)), (5, av_qc (.invokevirtual 96) 69 1 0 5), (8, av_q (.astore 5)), (10, av_q (.aload 5))]
def cl_104_1 : List (Nat × av_E) := [(12, av_qa (.ifnull 36) 48), (15, av_q (.aload 5)), (17, av_q (.iload_n 3)), (18, av_qc (.invokevirtual 136) 28 1 0 1), (21, av_qa (.ifCond .eq 27) 48), (24, av_q (.iload_n 2))]
def cl_104_2 : List (Nat × av_E) := [(25, av_qa (.ifCond .lt 23) 48), (28, av_q (.iload_n 2)), (29, av_q (.aload 5)), (31, av_qf (.getfield 146) 1 3 0), (34, av_qa (.if_icmp .ge 14) 48), (37, av_q (.iload 4))]
def cl_104_3 : List (Nat × av_E) := [(39, av_qa (.ifCond .lt 9) 48), (42, av_q (.iload 4)), (44, av_q (.iconst 2)), (45, av_qa (.if_icmp .le 6) 51), (48, av_q (.bipush (-2))), (50, av_q (.ireturn))]
def cl_104_4 : List (Nat × av_E) := [(51, av_q (.aload_n 0)), (52, av_qf (.getfield 48) 7 5 2), (55, av_q (.aload 5)), (57, av_q (.iload_n 2)), (58, av_q (.iload_n 3)), (59, av_q (.iload 4))]
def cl_104_5 : List (Nat × av_E) := [(61, av_qc (.invokevirtual 149) 47 4 0 3), (64, av_q (.ireturn))]
def cf_104 : Nat → Option av_E := (av_br 37 (av_br 10 (av_lq cl_104_0) (av_br 24 (av_lq cl_104_1) (av_lq cl_104_2))) (av_br 50 (av_lq cl_104_3) (av_br 59 (av_lq cl_104_4) (av_lq cl_104_5))))
set_option maxRecDepth 100000 in
set_option maxHeartbeats 4000000 in
theorem ck_104 : ∀ (pc : Nat) (x : av_E), cf_104 pc = some x → cd_104.lookup pc = some x := by
  have h : ∀ q ∈ cl_104_0 ++ (cl_104_1 ++ (cl_104_2 ++ (cl_104_3 ++ (cl_104_4 ++ (cl_104_5))))), cd_104.lookup q.1 = some q.2 := av_ascQ (cd := cd_104) (by decide +kernel)
  obtain ⟨h0, h⟩ := List.forall_mem_append.mp h
  obtain ⟨h1, h⟩ := List.forall_mem_append.mp h
  obtain ⟨h2, h⟩ := List.forall_mem_append.mp h
  obtain ⟨h3, h⟩ := List.forall_mem_append.mp h
  obtain ⟨h4, h⟩ := List.forall_mem_append.mp h
  have h5 := h
  exact (av_brP (av_brP (av_lqP h0) (av_brP (av_lqP h1) (av_lqP h2))) (av_brP (av_lqP h3) (av_brP (av_lqP h4) (av_lqP h5))))
def cl_105_0 : List (Nat × av_E) := [(0, av_q (.aload_n 0)), (1, av_qf (.getfield 19) 7 1 2), (4, av_q (.iload_n 1)), (5, av_qc (.invokevirtual 153) 70 1 0 5), (8, av_qa (.ifCond .eq 13) 21), (11, av_q (.iload_n 2))]
def cl_105_1 : List (Nat × av_E) := [(12, av_qa (.ifCond .lt 9) 21), (15, av_q (.iload_n 2)), (16, av_q (.bipush 14)), (18, av_qa (.if_icmp .lt 6) 24), (21, av_q (.bipush (-2))), (23, av_q (.ireturn))]
def cl_105_2 : List (Nat × av_E) := [(24, av_q (.aload_n 0)), (25, av_qf (.getfield 19) 7 1 2), (28, av_qf (.getfield 156) 5 1 2), (31, av_q (.iload_n 1)), (32, av_q (.aaload)), (33, av_q (.iload_n 2))]
def cl_105_3 : List (Nat × av_E) := [(34, av_q (.iaload)), (35, av_q (.ireturn))]
def cf_105 : Nat → Option av_E := (av_br 23 (av_br 11 (av_lq cl_105_0) (av_lq cl_105_1)) (av_br 33 (av_lq cl_105_2) (av_lq cl_105_3)))
set_option maxRecDepth 100000 in
set_option maxHeartbeats 4000000 in
theorem ck_105 : ∀ (pc : Nat) (x : av_E), cf_105 pc = some x → cd_105.lookup pc = some x := by
  have h : ∀ q ∈ cl_105_0 ++ (cl_105_1 ++ (cl_105_2 ++ (cl_105_3))), cd_105.lookup q.1 = some q.2 := av_ascQ (cd := cd_105) (by decide +kernel)
  obtain ⟨h0, h⟩ := List.forall_mem_append.mp h
  obtain ⟨h1, h⟩ := List.forall_mem_append.mp h
  obtain ⟨h2, h⟩ := List.forall_mem_append.mp h
  have h3 := h
  exact (av_brP (av_brP (av_lqP h0) (av_lqP h1)) (av_brP (av_lqP h2) (av_lqP h3)))
def cl_106_0 : List (Nat × av_E) := [(0, av_q (.iload 4)), (2, av_qa (.ifCond .lt 9) 11), (5, av_q (.iload 4)), (7, av_q (.iconst 2)), (8, av_qa (.if_icmp .le 11) 19), (11, av_q (.iload 4))]
def cl_106_1 : List (Nat × av_E) := [(13, av_qc (.invokestatic 133) 102 1 2 7), (16, av_qa (.ifCond .eq 7) 23), (19, av_q (.iconst 1)), (20, av_qa (.goto 4) 24), (23, av_q (.iconst 0)), (24, av_q (.istore 5))]
def cl_106_2 : List (Nat × av_E) := [(26, av_q (.iload 5)), (28, av_qa (.ifCond .eq 16) 44), (31, av_q (.aload_n 0)), (32, av_qf (.getfield 48) 7 5 2), (35, av_q (.iload_n 1)), (36, av_q (.iload_n 2))]
def cl_106_3 : List (Nat × av_E) := [(37, av_q (.iload_n 3)), (38, av_qc (.invokevirtual 160) 48 3 0 3), (41, av_qa (.ifCond .ne 6) 47), (44, av_q (.bipush (-3))), (46, av_q (.ireturn)), (47, av_q (.aload_n 0))]
def cl_106_4 : List (Nat × av_E) := [(48, av_qf (.getfield 48) 7 5 2), (51, av_qf (.getfield 164) 3 1 2), (54, av_q (.astore 6)), (56, av_q (.aload 6)), (58, av_qc (.invokevirtual 168) 3 0 0 0), (61, av_qa (.ifCond .ne 6) 67)]
def cl_106_5 : List (Nat × av_E) := [(64, av_q (.bipush (-2))), (66, av_q (.ireturn)), (67, av_q (.iload 4)), (69, av_qw (.tableswitch 45 0 2 #[27, 33, 39]) 27), (96, av_q (.aload 6)), (98, av_qf (.getfield 174) 0 13 0)]
def cl_106_6 : List (Nat × av_E) := [(101, av_q (.ireturn)), (102, av_q (.aload 6)), (104, av_qf (.getfield 177) 0 14 0), (107, av_q (.ireturn)), (108, av_q (.aload 6)), (110, av_qf (.getfield 180) 0 15 0)]
def cl_106_7 : List (Nat × av_E) := [(113, av_q (.ireturn)), (114, av_q (.aload 6)), (116, av_q (.iload 4)), (118, av_q (.bipush 10)), (120, av_q (.isub)), (121, av_qc (.invokevirtual 183) 17 1 0 0)]
def cl_106_8 : List (Nat × av_E) := [(124, av_q (.ireturn))]
def cf_106 : Nat → Option av_E := (av_br 47 (av_br 24 (av_br 11 (av_lq cl_106_0) (av_lq cl_106_1)) (av_br 36 (av_lq cl_106_2) (av_lq cl_106_3))) (av_br 98 (av_br 61 (av_lq cl_106_4) (av_lq cl_106_5)) (av_br 110 (av_lq cl_106_6) (av_br 121 (av_lq cl_106_7) (av_lq cl_106_8)))))
set_option maxRecDepth 100000 in
set_option maxHeartbeats 4000000 in
theorem ck_106 : ∀ (pc : Nat) (x : av_E), cf_106 pc = some x → cd_106.lookup pc = some x := by
  have h : ∀ q ∈ cl_106_0 ++ (cl_106_1 ++ (cl_106_2 ++ (cl_106_3 ++ (cl_106_4 ++ (cl_106_5 ++ (cl_106_6 ++ (cl_106_7 ++ (cl_106_8)))))))), cd_106.lookup q.1 = some q.2 := av_ascQ (cd := cd_106) (by decide +kernel)
  obtain ⟨h0, h⟩ := List.forall_mem_append.mp h
  obtain ⟨h1, h⟩ := List.forall_mem_append.mp h
  obtain ⟨h2, h⟩ := List.forall_mem_append.mp h
  obtain ⟨h3, h⟩ := List.forall_mem_append.mp h
  obtain ⟨h4, h⟩ := List.forall_mem_append.mp h
  obtain ⟨h5, h⟩ := List.forall_mem_append.mp h
  obtain ⟨h6, h⟩ := List.forall_mem_append.mp h
  obtain ⟨h7, h⟩ := List.forall_mem_append.mp h
  have h8 := h
  exact (av_brP (av_brP (av_brP (av_lqP h0) (av_lqP h1)) (av_brP (av_lqP h2) (av_lqP h3))) (av_brP (av_brP (av_lqP h4) (av_lqP h5)) (av_brP (av_lqP h6) (av_brP (av_lqP h7) (av_lqP h8)))))
def cl_107_0 : List (Nat × av_E) := [(0, av_q (.iload 5)), (2, av_qa (.ifCond .lt 37) 39), (5, av_q (.iload 5)), (7, av_q (.iconst 2)), (8, av_qa (.if_icmp .gt 31) 39), (11, av_q (.aload_n 0))]
def cl_107_1 : List (Nat × av_E) := [(12, av_qf (.getfield 48) 7 5 2), (15, av_q (.iload_n 1)), (16, av_q (.iload_n 2)), (17, av_q (.iload_n 3)), (18, av_qc (.invokevirtual 160) 48 3 0 3), (21, av_qa (.ifCond .eq 18) 39)]
def cl_107_2 : List (Nat × av_E) := [(24, av_q (.aload_n 0)), (25, av_qf (.getfield 48) 7 5 2), (28, av_qf (.getfield 164) 3 1 2), (31, av_q (.iload 4)), (33, av_qc (.invokevirtual 187) 15 1 0 0), (36, av_qa (.ifCond .ne 6) 42)]
def cl_107_3 : List (Nat × av_E) := [(39, av_q (.bipush (-2))), (41, av_q (.ireturn)), (42, av_q (.iload 5)), (44, av_qw (.lookupswitch 56 #[(0, 28), (1, 42)]) 28), (72, av_q (.aload_n 0)), (73, av_qf (.getfield 48) 7 5 2)]
def cl_107_4 : List (Nat × av_E) := [(76, av_qf (.getfield 164) 3 1 2), (79, av_qf (.getfield 190) 0 5 2), (82, av_q (.iload 4)), (84, av_q (.iaload)), (85, av_q (.ireturn)), (86, av_q (.aload_n 0))]
def cl_107_5 : List (Nat × av_E) := [(87, av_qf (.getfield 48) 7 5 2), (90, av_qf (.getfield 164) 3 1 2), (93, av_qf (.getfield 193) 0 6 2), (96, av_q (.iload 4)), (98, av_q (.iaload)), (99, av_q (.ireturn))]
def cl_107_6 : List (Nat × av_E) := [(100, av_q (.aload_n 0)), (101, av_qf (.getfield 48) 7 5 2), (104, av_qf (.getfield 164) 3 1 2), (107, av_qf (.getfield 196) 0 7 2), (110, av_q (.iload 4)), (112, av_q (.iaload))]
def cl_107_7 : List (Nat × av_E) := [(113, av_q (.ireturn))]
def cf_107 : Nat → Option av_E := (av_br 73 (av_br 21 (av_br 11 (av_lq cl_107_0) (av_lq cl_107_1)) (av_br 36 (av_lq cl_107_2) (av_lq cl_107_3))) (av_br 99 (av_br 86 (av_lq cl_107_4) (av_lq cl_107_5)) (av_br 112 (av_lq cl_107_6) (av_lq cl_107_7))))
set_option maxRecDepth 100000 in
set_option maxHeartbeats 4000000 in
theorem ck_107 : ∀ (pc : Nat) (x : av_E), cf_107 pc = some x → cd_107.lookup pc = some x := by
  have h : ∀ q ∈ cl_107_0 ++ (cl_107_1 ++ (cl_107_2 ++ (cl_107_3 ++ (cl_107_4 ++ (cl_107_5 ++ (cl_107_6 ++ (cl_107_7))))))), cd_107.lookup q.1 = some q.2 := av_ascQ (cd := cd_107) (by decide +kernel)
  obtain ⟨h0, h⟩ := List.forall_mem_append.mp h
  obtain ⟨h1, h⟩ := List.forall_mem_append.mp h
  obtain ⟨h2, h⟩ := List.forall_mem_append.mp h
  obtain ⟨h3, h⟩ := List.forall_mem_append.mp h
  obtain ⟨h4, h⟩ := List.forall_mem_append.mp h
  obtain ⟨h5, h⟩ := List.forall_mem_append.mp h
  obtain ⟨h6, h⟩ := List.forall_mem_append.mp h
  have h7 := h
  exact (av_brP (av_brP (av_brP (av_lqP h0) (av_lqP h1)) (av_brP (av_lqP h2) (av_lqP h3))) (av_brP (av_brP (av_lqP h4) (av_lqP h5)) (av_brP (av_lqP h6) (av_lqP h7))))
def cl_108_0 : List (Nat × av_E) := [(0, av_q (.aload_n 0)), (1, av_qf (.getfield 48) 7 5 2), (4, av_q (.iload_n 1)), (5, av_q (.iload_n 2)), (6, av_q (.iload_n 3)), (7, av_qc (.invokevirtual 160) 48 3 0 3)]
def cl_108_1 : List (Nat × av_E) := [(10, av_qa (.ifCond .ne 6) 16), (13, av_q (.bipush (-2))), (15, av_q (.ireturn)), (16, av_q (.aload_n 0)), (17, av_qf (.getfield 48) 7 5 2), (20, av_qf (.getfield 164) 3 1 2)]
def cl_108_2 : List (Nat × av_E) := [(23, av_qc (.invokevirtual 199) 18 0 0 0), (26, av_q (.ireturn))]
def cf_108 : Nat → Option av_E := (av_br 7 (av_lq cl_108_0) (av_br 20 (av_lq cl_108_1) (av_lq cl_108_2)))
set_option maxRecDepth 100000 in
set_option maxHeartbeats 4000000 in
theorem ck_108 : ∀ (pc : Nat) (x : av_E), cf_108 pc = some x → cd_108.lookup pc = some x := by
  have h : ∀ q ∈ cl_108_0 ++ (cl_108_1 ++ (cl_108_2)), cd_108.lookup q.1 = some q.2 := av_ascQ (cd := cd_108) (by decide +kernel)
  obtain ⟨h0, h⟩ := List.forall_mem_append.mp h
  obtain ⟨h1, h⟩ := List.forall_mem_append.mp h
  have h2 := h
  exact (av_brP (av_lqP h0) (av_brP (av_lqP h1) (av_lqP h2)))
def cl_109_0 : List (Nat × av_E) := [(0, av_q (.iload_n 3)), (1, av_qa (.ifCond .lt 20) 21), (4, av_q (.iload_n 3)), (5, av_q (.iconst 5)), (6, av_qa (.if_icmp .ge 15) 21), (9, av_q (.aload_n 0))]
def cl_109_1 : List (Nat × av_E) := [(10, av_qf (.getfield 48) 7 5 2), (13, av_q (.iload_n 1)), (14, av_q (.iload_n 2)), (15, av_qc (.invokevirtual 203) 49 2 0 3), (18, av_qa (.ifCond .ne 6) 24), (21, av_q (.bipush (-2)))]
def cl_109_2 : List (Nat × av_E) := [(23, av_q (.ireturn)), (24, av_q (.aload_n 0)), (25, av_qf (.getfield 48) 7 5 2), (28, av_qc (.invokevirtual 207) 56 0 0 3), (31, av_q (.aload_n 0)), (32, av_qf (.getfield 48) 7 5 2)]
def cl_109_3 : List (Nat × av_E) := [(35, av_qf (.getfield 210) 3 8 2), (38, av_q (.iload_n 3)), (39, av_q (.iaload)), (40, av_q (.ireturn))]
def cf_109 : Nat → Option av_E := (av_br 21 (av_br 9 (av_lq cl_109_0) (av_lq cl_109_1)) (av_br 32 (av_lq cl_109_2) (av_lq cl_109_3)))
set_option maxRecDepth 100000 in
set_option maxHeartbeats 4000000 in
theorem ck_109 : ∀ (pc : Nat) (x : av_E), cf_109 pc = some x → cd_109.lookup pc = some x := by
  have h : ∀ q ∈ cl_109_0 ++ (cl_109_1 ++ (cl_109_2 ++ (cl_109_3))), cd_109.lookup q.1 = some q.2 := av_ascQ (cd := cd_109) (by decide +kernel)
  obtain ⟨h0, h⟩ := List.forall_mem_append.mp h
  obtain ⟨h1, h⟩ := List.forall_mem_append.mp h
  obtain ⟨h2, h⟩ := List.forall_mem_append.mp h
  have h3 := h
  exact (av_brP (av_brP (av_lqP h0) (av_lqP h1)) (av_brP (av_lqP h2) (av_lqP h3)))
def cl_110_0 : List (Nat × av_E) := [(0, av_q (.aload_n 0)), (1, av_qf (.getfield 48) 7 5 2), (4, av_q (.iload_n 1)), (5, av_q (.iload_n 2)), (6, av_qc (.invokevirtual 203) 49 2 0 3), (9, av_qa (.ifCond .eq 21) 30)]
def cl_110_1 : List (Nat × av_E) := [(12, av_q (.aload_n 0)), (13, av_qf (.getfield 48) 7 5 2), (16, av_qf (.getfield 164) 3 1 2), (19, av_qf (.getfield 213) 0 12 2), (22, av_qf (.getfield 143) 1 2 0), (25, av_q (.bipush 12))]
def cl_110_2 : List (Nat × av_E) := [(27, av_qa (.if_icmp .le 6) 33), (30, av_q (.bipush (-2))), (32, av_q (.ireturn)), (33, av_q (.aload_n 0)), (34, av_qf (.getfield 48) 7 5 2), (37, av_qc (.invokevirtual 216) 58 0 0 3)]
def cl_110_3 : List (Nat × av_E) := [(40, av_q (.ireturn))]
def cf_110 : Nat → Option av_E := (av_br 25 (av_br 9 (av_lq cl_110_0) (av_lq cl_110_1)) (av_br 37 (av_lq cl_110_2) (av_lq cl_110_3)))
set_option maxRecDepth 100000 in
set_option maxHeartbeats 4000000 in
theorem ck_110 : ∀ (pc : Nat) (x : av_E), cf_110 pc = some x → cd_110.lookup pc = some x := by
  have h : ∀ q ∈ cl_110_0 ++ (cl_110_1 ++ (cl_110_2 ++ (cl_110_3))), cd_110.lookup q.1 = some q.2 := av_ascQ (cd := cd_110) (by decide +kernel)
  obtain ⟨h0, h⟩ := List.forall_mem_append.mp h
  obtain ⟨h1, h⟩ := List.forall_mem_append.mp h
  obtain ⟨h2, h⟩ := List.forall_mem_append.mp h
  have h3 := h
  exact (av_brP (av_brP (av_lqP h0) (av_lqP h1)) (av_brP (av_lqP h2) (av_lqP h3)))
def cl_111_0 : List (Nat × av_E) := [(0, av_q (.iload 4)), (2, av_qa (.ifCond .lt 16) 18), (5, av_q (.aload_n 0)), (6, av_qf (.getfield 48) 7 5 2), (9, av_q (.iload_n 1)), (10, av_q (.iload_n 2))]
def cl_111_1 : List (Nat × av_E) := [(11, av_q (.iload_n 3)), (12, av_qc (.invokevirtual 160) 48 3 0 3), (15, av_qa (.ifCond .ne 6) 21), (18, av_q (.bipush (-2))), (20, av_q (.ireturn)), (21, av_q (.aload_n 0))]
def cl_111_2 : List (Nat × av_E) := [(22, av_qf (.getfield 48) 7 5 2), (25, av_qf (.getfield 164) 3 1 2), (28, av_q (.iload 4)), (30, av_qc (.invokevirtual 219) 19 1 0 0), (33, av_q (.ireturn))]
def cf_111 : Nat → Option av_E := (av_br 10 (av_lq cl_111_0) (av_br 21 (av_lq cl_111_1) (av_lq cl_111_2)))
set_option maxRecDepth 100000 in
set_option maxHeartbeats 4000000 in
theorem ck_111 : ∀ (pc : Nat) (x : av_E), cf_111 pc = some x → cd_111.lookup pc = some x := by
  have h : ∀ q ∈ cl_111_0 ++ (cl_111_1 ++ (cl_111_2)), cd_111.lookup q.1 = some q.2 := av_ascQ (cd := cd_111) (by decide +kernel)
  obtain ⟨h0, h⟩ := List.forall_mem_append.mp h
  obtain ⟨h1, h⟩ := List.forall_mem_append.mp h
  have h2 := h
  exact (av_brP (av_lqP h0) (av_brP (av_lqP h1) (av_lqP h2)))
def cl_112_0 : List (Nat × av_E) := [(0, av_q (.aload_n 0)), (1, av_qf (.getfield 48) 7 5 2), (4, av_q (.iload_n 1)), (5, av_q (.iload_n 2)), (6, av_q (.iload_n 3)), (7, av_qc (.invokevirtual 160) 48 3 0 3)]
def cl_112_1 : List (Nat × av_E) := [(10, av_qa (.ifCond .ne 6) 16), (13, av_q (.bipush (-2))), (15, av_q (.ireturn)), (16, av_q (.aload_n 0)), (17, av_qf (.getfield 48) 7 5 2), (20, av_qf (.getfield 164) 3 1 2)]
def cl_112_2 : List (Nat × av_E) := [(23, av_q (.astore 6)), (25, av_q (.iload 4)), (27, av_q (.bipush (-2))), (29, av_qa (.if_icmp .eq 7) 36), (32, av_q (.iconst 1)), (33, av_qa (.goto 4) 37)]
def cl_112_3 : List (Nat × av_E) := [(36, av_q (.iconst 0)), (37, av_q (.istore 7)), (39, av_q (.iload 7)), (41, av_q (.aload 6)), (43, av_qc (.invokevirtual 168) 3 0 0 0), (46, av_qa (.if_icmp .eq 5) 51)]
def cl_112_4 : List (Nat × av_E) := [(49, av_q (.iconst 0)), (50, av_q (.ireturn)), (51, av_q (.iload 7)), (53, av_qa (.ifCond .ne 5) 58), (56, av_q (.iconst (-1))), (57, av_q (.ireturn))]
def cl_112_5 : List (Nat × av_E) := [(58, av_q (.iload 4)), (60, av_q (.aload 6)), (62, av_qf (.getfield 174) 0 13 0), (65, av_qa (.if_icmp .eq 5) 70), (68, av_q (.iconst 1)), (69, av_q (.ireturn))]
def cl_112_6 : List (Nat × av_E) := [(70, av_q (.iload 5)), (72, av_q (.aload 6)), (74, av_qf (.getfield 180) 0 15 0), (77, av_qa (.if_icmp .ne 7) 84), (80, av_q (.iconst (-1))), (81, av_qa (.goto 4) 85)]
def cl_112_7 : List (Nat × av_E) := [(84, av_q (.iconst 2)), (85, av_q (.ireturn))]
def cf_112 : Nat → Option av_E := (av_br 46 (av_br 20 (av_br 7 (av_lq cl_112_0) (av_lq cl_112_1)) (av_br 33 (av_lq cl_112_2) (av_lq cl_112_3))) (av_br 69 (av_br 57 (av_lq cl_112_4) (av_lq cl_112_5)) (av_br 81 (av_lq cl_112_6) (av_lq cl_112_7))))
set_option maxRecDepth 100000 in
set_option maxHeartbeats 4000000 in
theorem ck_112 : ∀ (pc : Nat) (x : av_E), cf_112 pc = some x → cd_112.lookup pc = some x := by
  have h : ∀ q ∈ cl_112_0 ++ (cl_112_1 ++ (cl_112_2 ++ (cl_112_3 ++ (cl_112_4 ++ (cl_112_5 ++ (cl_112_6 ++ (cl_112_7))))))), cd_112.lookup q.1 = some q.2 := av_ascQ (cd := cd_112) (by decide +kernel)
  obtain ⟨h0, h⟩ := List.forall_mem_append.mp h
  obtain ⟨h1, h⟩ := List.forall_mem_append.mp h
  obtain ⟨h2, h⟩ := List.forall_mem_append.mp h
  obtain ⟨h3, h⟩ := List.forall_mem_append.mp h
  obtain ⟨h4, h⟩ := List.forall_mem_append.mp h
  obtain ⟨h5, h⟩ := List.forall_mem_append.mp h
  obtain ⟨h6, h⟩ := List.forall_mem_append.mp h
  have h7 := h
  exact (av_brP (av_brP (av_brP (av_lqP h0) (av_lqP h1)) (av_brP (av_lqP h2) (av_lqP h3))) (av_brP (av_brP (av_lqP h4) (av_lqP h5)) (av_brP (av_lqP h6) (av_lqP h7))))
def cl_113_0 : List (Nat × av_E) := [(0, av_q (.iload 4)), (2, av_qa (.ifCond .lt 22) 24), (5, av_q (.iload 4)), (7, av_q (.iconst 1)), (8, av_qa (.if_icmp .gt 16) 24), (11, av_q (.aload_n 0))]
def cl_113_1 : List (Nat × av_E) := [(12, av_qf (.getfield 48) 7 5 2), (15, av_q (.iload_n 1)), (16, av_q (.iload_n 2)), (17, av_q (.iload_n 3)), (18, av_qc (.invokevirtual 222) 50 3 0 3), (21, av_qa (.ifCond .ne 6) 27)]
def cl_113_2 : List (Nat × av_E) := [(24, av_q (.bipush (-2))), (26, av_q (.ireturn)), (27, av_q (.iload 4)), (29, av_qa (.ifCond .ne 13) 42), (32, av_q (.aload_n 0)), (33, av_qf (.getfield 48) 7 5 2)]
def cl_113_3 : List (Nat × av_E) := [(36, av_qc (.invokevirtual 225) 60 0 0 3), (39, av_qa (.goto 10) 49), (42, av_q (.aload_n 0)), (43, av_qf (.getfield 48) 7 5 2), (46, av_qc (.invokevirtual 228) 61 0 0 3), (49, av_q (.ireturn))]
def cf_113 : Nat → Option av_E := (av_br 21 (av_br 11 (av_lq cl_113_0) (av_lq cl_113_1)) (av_br 33 (av_lq cl_113_2) (av_lq cl_113_3)))
set_option maxRecDepth 100000 in
set_option maxHeartbeats 4000000 in
theorem ck_113 : ∀ (pc : Nat) (x : av_E), cf_113 pc = some x → cd_113.lookup pc = some x := by
  have h : ∀ q ∈ cl_113_0 ++ (cl_113_1 ++ (cl_113_2 ++ (cl_113_3))), cd_113.lookup q.1 = some q.2 := av_ascQ (cd := cd_113) (by decide +kernel)
  obtain ⟨h0, h⟩ := List.forall_mem_append.mp h
  obtain ⟨h1, h⟩ := List.forall_mem_append.mp h
  obtain ⟨h2, h⟩ := List.forall_mem_append.mp h
  have h3 := h
  exact (av_brP (av_brP (av_lqP h0) (av_lqP h1)) (av_brP (av_lqP h2) (av_lqP h3)))
def cl_114_0 : List (Nat × av_E) := [(0, av_q (.aload_n 0)), (1, av_qf (.getfield 19) 7 1 2), (4, av_q (.iload_n 1)), (5, av_qc (.invokevirtual 153) 70 1 0 5), (8, av_qa (.ifCond .eq 14) 22), (11, av_q (.aload_n 0))]
def cl_114_1 : List (Nat × av_E) := [(12, av_qf (.getfield 19) 7 1 2), (15, av_q (.iload_n 2)), (16, av_qc (.invokevirtual 153) 70 1 0 5), (19, av_qa (.ifCond .ne 6) 25), (22, av_q (.bipush (-2))), (24, av_q (.ireturn))]
def cl_114_2 : List (Nat × av_E) := [(25, av_q (.iconst (-1))), (26, av_q (.istore_n 3)), (27, av_q (.bipush 13)), (29, av_q (.istore 4)), (31, av_q (.iconst 0)), (32, av_q (.istore 5))]
def cl_114_3 : List (Nat × av_E) := [(34, av_q (.iload 5)), (36, av_q (.aload_n 0)), (37, av_qf (.getfield 19) 7 1 2), (40, av_qf (.getfield 79) 5 3 0), (43, av_qa (.if_icmp .ge 82) 125), (46, av_q (.aload_n 0))]
def cl_114_4 : List (Nat × av_E) := [(47, av_qf (.getfield 19) 7 1 2), (50, av_q (.iload 5)), (52, av_qc (.invokevirtual 96) 69 1 0 5), (55, av_q (.astore 6)), (57, av_q (.aload 6)), (59, av_qa (.ifnull 17) 76)]
def cl_114_5 : List (Nat × av_E) := [(62, av_q (.aload 6)), (64, av_qf (.getfield 107) 1 1 0), (67, av_q (.iload 4)), (69, av_qa (.if_icmp .ge 7) 76), (72, av_q (.iconst 1)), (73, av_qa (.goto 4) 77)]
def cl_114_6 : List (Nat × av_E) := [(76, av_q (.iconst 0)), (77, av_q (.istore 7)), (79, av_q (.iload 7)), (81, av_qa (.ifCond .eq 38) 119), (84, av_q (.aload_n 0)), (85, av_qf (.getfield 48) 7 5 2)]
def cl_114_7 : List (Nat × av_E) := [(88, av_q (.iload 5)), (90, av_q (.iload_n 1)), (91, av_q (.iload_n 2)), (92, av_qc (.invokevirtual 222) 50 3 0 3), (95, av_qa (.ifCond .eq 24) 119), (98, av_q (.aload_n 0))]
def cl_114_8 : List (Nat × av_E) := [(99, av_qf (.getfield 48) 7 5 2), (102, av_qc (.invokevirtual 228) 61 0 0 3), (105, av_q (.iconst (-1))), (106, av_qa (.if_icmp .eq 13) 119), (109, av_q (.iload 5)), (111, av_q (.istore_n 3))]
def cl_114_9 : List (Nat × av_E) := [(112, av_q (.aload 6)), (114, av_qf (.getfield 107) 1 1 0), (117, av_q (.istore 4)), (119, av_q (.iinc 5 1)), (122, av_qa (.goto (-88)) 34), (125, av_q (.iload_n 3))]
def cl_114_10 : List (Nat × av_E) := [(126, av_q (.ireturn))]
def cf_114 : Nat → Option av_E := (av_br 59 (av_br 24 (av_br 11 (av_lq cl_114_0) (av_lq cl_114_1)) (av_br 32 (av_lq cl_114_2) (av_br 46 (av_lq cl_114_3) (av_lq cl_114_4)))) (av_br 98 (av_br 73 (av_lq cl_114_5) (av_br 85 (av_lq cl_114_6) (av_lq cl_114_7))) (av_br 111 (av_lq cl_114_8) (av_br 125 (av_lq cl_114_9) (av_lq cl_114_10)))))
set_option maxRecDepth 100000 in
set_option maxHeartbeats 4000000 in
theorem ck_114 : ∀ (pc : Nat) (x : av_E), cf_114 pc = some x → cd_114.lookup pc = some x := by
  have h : ∀ q ∈ cl_114_0 ++ (cl_114_1 ++ (cl_114_2 ++ (cl_114_3 ++ (cl_114_4 ++ (cl_114_5 ++ (cl_114_6 ++ (cl_114_7 ++ (cl_114_8 ++ (cl_114_9 ++ (cl_114_10)))))))))), cd_114.lookup q.1 = some q.2 := av_ascQ (cd := cd_114) (by decide +kernel)
  obtain ⟨h0, h⟩ := List.forall_mem_append.mp h
  obtain ⟨h1, h⟩ := List.forall_mem_append.mp h
  obtain ⟨h2, h⟩ := List.forall_mem_append.mp h
  obtain ⟨h3, h⟩ := List.forall_mem_append.mp h
  obtain ⟨h4, h⟩ := List.forall_mem_append.mp h
  obtain ⟨h5, h⟩ := List.forall_mem_append.mp h
  obtain ⟨h6, h⟩ := List.forall_mem_append.mp h
  obtain ⟨h7, h⟩ := List.forall_mem_append.mp h
  obtain ⟨h8, h⟩ := List.forall_mem_append.mp h
  obtain ⟨h9, h⟩ := List.forall_mem_append.mp h
  have h10 := h
  exact (av_brP (av_brP (av_brP (av_lqP h0) (av_lqP h1)) (av_brP (av_lqP h2) (av_brP (av_lqP h3) (av_lqP h4)))) (av_brP (av_brP (av_lqP h5) (av_brP (av_lqP h6) (av_lqP h7))) (av_brP (av_lqP h8) (av_brP (av_lqP h9) (av_lqP h10)))))
def cl_115_0 : List (Nat × av_E) := [(0, av_q (.aload_n 0)), (1, av_qf (.getfield 19) 7 1 2), (4, av_q (.iload_n 1)), (5, av_qc (.invokevirtual 96) 69 1 0 5), (8, av_q (.astore_n 2)), (9, av_q (.aload_n 2))]
def cl_115_1 : List (Nat × av_E) := [(10, av_qa (.ifnull 21) 31), (13, av_q (.aload_n 2)), (14, av_qf (.getfield 146) 1 3 0), (17, av_q (.iconst (-1))), (18, av_qa (.if_icmp .eq 13) 31), (21, av_q (.aload_n 0))]
def cl_115_2 : List (Nat × av_E) := [(22, av_qf (.getfield 19) 7 1 2), (25, av_qf (.getfield 110) 5 4 0), (28, av_qa (.ifCond .ne 6) 34), (31, av_q (.bipush (-2))), (33, av_q (.ireturn)), (34, av_q (.iconst 1))]
def cl_115_3 : List (Nat × av_E) := [(35, av_q (.aload_n 0)), (36, av_qf (.getfield 19) 7 1 2), (39, av_qf (.getfield 124) 5 5 0), (42, av_q (.ishl)), (43, av_q (.istore_n 3)), (44, av_q (.iconst 0))]
def cl_115_4 : List (Nat × av_E) := [(45, av_q (.istore 4)), (47, av_q (.iload 4)), (49, av_q (.aload_n 0)), (50, av_qf (.getfield 19) 7 1 2), (53, av_qf (.getfield 124) 5 5 0), (56, av_qa (.if_icmp .gt 51) 107)]
def cl_115_5 : List (Nat × av_E) := [(59, av_q (.iconst 0)), (60, av_q (.istore 5)), (62, av_q (.iload 5)), (64, av_q (.iload_n 3)), (65, av_qa (.if_icmp .ge 36) 101), (68, av_q (.iload 5))]
def cl_115_6 : List (Nat × av_E) := [(70, av_qc (.invokestatic 231) 218 1 2 11), (73, av_q (.iload 4)), (75, av_qa (.if_icmp .ne 20) 95), (78, av_q (.aload_n 0)), (79, av_qf (.getfield 48) 7 5 2), (82, av_q (.aload_n 2))]
def cl_115_7 : List (Nat × av_E) := [(83, av_q (.iload_n 1)), (84, av_q (.iload 5)), (86, av_qc (.invokevirtual 236) 63 3 0 3), (89, av_qa (.ifCond .eq 6) 95), (92, av_q (.iload 5)), (94, av_q (.ireturn))]
def cl_115_8 : List (Nat × av_E) := [(95, av_q (.iinc 5 1)), (98, av_qa (.goto (-36)) 62), (101, av_q (.iinc 4 1)), (104, av_qa (.goto (-57)) 47), (107, av_q (.iconst (-1))), (108, av_q (.ireturn))]
def cf_115 : Nat → Option av_E := (av_br 44 (av_br 21 (av_br 9 (av_lq cl_115_0) (av_lq cl_115_1)) (av_br 34 (av_lq cl_115_2) (av_lq cl_115_3))) (av_br 68 (av_br 56 (av_lq cl_115_4) (av_lq cl_115_5)) (av_br 82 (av_lq cl_115_6) (av_br 94 (av_lq cl_115_7) (av_lq cl_115_8)))))
set_option maxRecDepth 100000 in
set_option maxHeartbeats 4000000 in
theorem ck_115 : ∀ (pc : Nat) (x : av_E), cf_115 pc = some x → cd_115.lookup pc = some x := by
  have h : ∀ q ∈ cl_115_0 ++ (cl_115_1 ++ (cl_115_2 ++ (cl_115_3 ++ (cl_115_4 ++ (cl_115_5 ++ (cl_115_6 ++ (cl_115_7 ++ (cl_115_8)))))))), cd_115.lookup q.1 = some q.2 := av_ascQ (cd := cd_115) (by decide +kernel)
  obtain ⟨h0, h⟩ := List.forall_mem_append.mp h
  obtain ⟨h1, h⟩ := List.forall_mem_append.mp h
  obtain ⟨h2, h⟩ := List.forall_mem_append.mp h
  obtain ⟨h3, h⟩ := List.forall_mem_append.mp h
  obtain ⟨h4, h⟩ := List.forall_mem_append.mp h
  obtain ⟨h5, h⟩ := List.forall_mem_append.mp h
  obtain ⟨h6, h⟩ := List.forall_mem_append.mp h
  obtain ⟨h7, h⟩ := List.forall_mem_append.mp h
  have h8 := h
  exact (av_brP (av_brP (av_brP (av_lqP h0) (av_lqP h1)) (av_brP (av_lqP h2) (av_lqP h3))) (av_brP (av_brP (av_lqP h4) (av_lqP h5)) (av_brP (av_lqP h6) (av_brP (av_lqP h7) (av_lqP h8)))))
def cl_116_0 : List (Nat × av_E) := [(0, av_q (.aload_n 0)), (1, av_qf (.getfield 48) 7 5 2), (4, av_q (.iload_n 1)), (5, av_q (.iload_n 2)), (6, av_q (.iload_n 3)), (7, av_qc (.invokevirtual 160) 48 3 0 3)]
def cl_116_1 : List (Nat × av_E) := [(10, av_qa (.ifCond .eq 21) 31), (13, av_q (.aload_n 0)), (14, av_qf (.getfield 48) 7 5 2), (17, av_qf (.getfield 164) 3 1 2), (20, av_qf (.getfield 213) 0 12 2), (23, av_q (.iload 4))]
def cl_116_2 : List (Nat × av_E) := [(25, av_qc (.invokevirtual 136) 28 1 0 1), (28, av_qa (.ifCond .ne 6) 34), (31, av_q (.bipush (-2))), (33, av_q (.ireturn)), (34, av_q (.aload_n 0)), (35, av_qf (.getfield 48) 7 5 2)]
def cl_116_3 : List (Nat × av_E) := [(38, av_qf (.getfield 164) 3 1 2), (41, av_q (.iload 4)), (43, av_qc (.invokevirtual 240) 21 1 0 0), (46, av_q (.ireturn))]
def cf_116 : Nat → Option av_E := (av_br 23 (av_br 7 (av_lq cl_116_0) (av_lq cl_116_1)) (av_br 35 (av_lq cl_116_2) (av_lq cl_116_3)))
set_option maxRecDepth 100000 in
set_option maxHeartbeats 4000000 in
theorem ck_116 : ∀ (pc : Nat) (x : av_E), cf_116 pc = some x → cd_116.lookup pc = some x := by
  have h : ∀ q ∈ cl_116_0 ++ (cl_116_1 ++ (cl_116_2 ++ (cl_116_3))), cd_116.lookup q.1 = some q.2 := av_ascQ (cd := cd_116) (by decide +kernel)
  obtain ⟨h0, h⟩ := List.forall_mem_append.mp h
  obtain ⟨h1, h⟩ := List.forall_mem_append.mp h
  obtain ⟨h2, h⟩ := List.forall_mem_append.mp h
  have h3 := h
  exact (av_brP (av_brP (av_lqP h0) (av_lqP h1)) (av_brP (av_lqP h2) (av_lqP h3)))
def cl_117_0 : List (Nat × av_E) := [(0, av_q (.iload 4)), (2, av_qc (.invokestatic 243) 119 1 2 7), (5, av_qa (.ifCond .eq 29) 34), (8, av_q (.iload 5)), (10, av_qa (.ifCond .lt 24) 34), (13, av_q (.iload 5))]
def cl_117_1 : List (Nat × av_E) := [(15, av_q (.sipush 9999)), (18, av_qa (.if_icmp .ge 16) 34), (21, av_q (.aload_n 0)), (22, av_qf (.getfield 48) 7 5 2), (25, av_q (.iload_n 1)), (26, av_q (.iload_n 2))]
def cl_117_2 : List (Nat × av_E) := [(27, av_q (.iload_n 3)), (28, av_qc (.invokevirtual 160) 48 3 0 3), (31, av_qa (.ifCond .ne 6) 37), (34, av_q (.bipush (-2))), (36, av_q (.ireturn)), (37, av_q (.aload_n 0))]
def cl_117_3 : List (Nat × av_E) := [(38, av_qf (.getfield 48) 7 5 2), (41, av_qf (.getfield 164) 3 1 2), (44, av_q (.iload 4)), (46, av_q (.iconst 1)), (47, av_q (.iload 5)), (49, av_qc (.invokevirtual 246) 23 3 0 0)]
def cl_117_4 : List (Nat × av_E) := [(52, av_qa (.ifCond .eq 7) 59), (55, av_q (.iconst 1)), (56, av_qa (.goto 4) 60), (59, av_q (.iconst 0)), (60, av_q (.istore 6)), (62, av_q (.aload_n 0))]
def cl_117_5 : List (Nat × av_E) := [(63, av_qf (.getfield 48) 7 5 2), (66, av_qf (.getfield 164) 3 1 2), (69, av_q (.iload 4)), (71, av_q (.iconst 2)), (72, av_q (.iload 5)), (74, av_qc (.invokevirtual 246) 23 3 0 0)]
def cl_117_6 : List (Nat × av_E) := [(77, av_qa (.ifCond .eq 10) 87), (80, av_q (.iload 6)), (82, av_q (.iconst 2)), (83, av_q (.ior)), (84, av_qa (.goto 5) 89), (87, av_q (.iload 6))]
def cl_117_7 : List (Nat × av_E) := [(89, av_q (.ireturn))]
def cf_117 : Nat → Option av_E := (av_br 49 (av_br 26 (av_br 13 (av_lq cl_117_0) (av_lq cl_117_1)) (av_br 37 (av_lq cl_117_2) (av_lq cl_117_3))) (av_br 74 (av_br 62 (av_lq cl_117_4) (av_lq cl_117_5)) (av_br 87 (av_lq cl_117_6) (av_lq cl_117_7))))
set_option maxRecDepth 100000 in
set_option maxHeartbeats 4000000 in
theorem ck_117 : ∀ (pc : Nat) (x : av_E), cf_117 pc = some x → cd_117.lookup pc = some x := by
  have h : ∀ q ∈ cl_117_0 ++ (cl_117_1 ++ (cl_117_2 ++ (cl_117_3 ++ (cl_117_4 ++ (cl_117_5 ++ (cl_117_6 ++ (cl_117_7))))))), cd_117.lookup q.1 = some q.2 := av_ascQ (cd := cd_117) (by decide +kernel)
  obtain ⟨h0, h⟩ := List.forall_mem_append.mp h
  obtain ⟨h1, h⟩ := List.forall_mem_append.mp h
  obtain ⟨h2, h⟩ := List.forall_mem_append.mp h
  obtain ⟨h3, h⟩ := List.forall_mem_append.mp h
  obtain ⟨h4, h⟩ := List.forall_mem_append.mp h
  obtain ⟨h5, h⟩ := List.forall_mem_append.mp h
  obtain ⟨h6, h⟩ := List.forall_mem_append.mp h
  have h7 := h
  exact (av_brP (av_brP (av_brP (av_lqP h0) (av_lqP h1)) (av_brP (av_lqP h2) (av_lqP h3))) (av_brP (av_brP (av_lqP h4) (av_lqP h5)) (av_brP (av_lqP h6) (av_lqP h7))))
def cl_118_0 : List (Nat × av_E) := [(0, av_q (.iload 4)), (2, av_qc (.invokestatic 243) 119 1 2 7), (5, av_qa (.ifCond .eq 28) 33), (8, av_q (.iload 5)), (10, av_q (.iconst 1)), (11, av_qa (.if_icmp .lt 22) 33)]
def cl_118_1 : List (Nat × av_E) := [(14, av_q (.iload 5)), (16, av_q (.iconst 2)), (17, av_qa (.if_icmp .gt 16) 33), (20, av_q (.aload_n 0)), (21, av_qf (.getfield 48) 7 5 2), (24, av_q (.iload_n 1))]
def cl_118_2 : List (Nat × av_E) := [(25, av_q (.iload_n 2)), (26, av_q (.iload_n 3)), (27, av_qc (.invokevirtual 160) 48 3 0 3), (30, av_qa (.ifCond .ne 6) 36), (33, av_q (.bipush (-2))), (35, av_q (.ireturn))]
def cl_118_3 : List (Nat × av_E) := [(36, av_q (.aload_n 0)), (37, av_qf (.getfield 48) 7 5 2), (40, av_qf (.getfield 164) 3 1 2), (43, av_q (.iload 4)), (45, av_q (.iload 5)), (47, av_qc (.invokevirtual 249) 24 2 0 0)]
def cl_118_4 : List (Nat × av_E) := [(50, av_q (.ireturn))]
def cf_118 : Nat → Option av_E := (av_br 24 (av_br 11 (av_lq cl_118_0) (av_lq cl_118_1)) (av_br 35 (av_lq cl_118_2) (av_br 47 (av_lq cl_118_3) (av_lq cl_118_4))))
set_option maxRecDepth 100000 in
set_option maxHeartbeats 4000000 in
theorem ck_118 : ∀ (pc : Nat) (x : av_E), cf_118 pc = some x → cd_118.lookup pc = some x := by
  have h : ∀ q ∈ cl_118_0 ++ (cl_118_1 ++ (cl_118_2 ++ (cl_118_3 ++ (cl_118_4)))), cd_118.lookup q.1 = some q.2 := av_ascQ (cd := cd_118) (by decide +kernel)
  obtain ⟨h0, h⟩ := List.forall_mem_append.mp h
  obtain ⟨h1, h⟩ := List.forall_mem_append.mp h
  obtain ⟨h2, h⟩ := List.forall_mem_append.mp h
  obtain ⟨h3, h⟩ := List.forall_mem_append.mp h
  have h4 := h
  exact (av_brP (av_brP (av_lqP h0) (av_lqP h1)) (av_brP (av_lqP h2) (av_brP (av_lqP h3) (av_lqP h4))))
def cl_119_0 : List (Nat × av_E) := [(0, av_q (.iload_n 0)), (1, av_qa (.ifCond .lt 12) 13), (4, av_q (.iload_n 0)), (5, av_q (.iconst 3)), (6, av_qa (.if_icmp .ge 7) 13), (9, av_q (.iconst 1))]
def cl_119_1 : List (Nat × av_E) := [(10, av_qa (.goto 4) 14), (13, av_q (.iconst 0)), (14, av_qa (.ireturn) 1)]
def cf_119 : Nat → Option av_E := (av_br 9 (av_lq cl_119_0) (av_lq cl_119_1))
set_option maxRecDepth 100000 in
set_option maxHeartbeats 4000000 in
theorem ck_119 : ∀ (pc : Nat) (x : av_E), cf_119 pc = some x → cd_119.lookup pc = some x := by
  have h : ∀ q ∈ cl_119_0 ++ (cl_119_1), cd_119.lookup q.1 = some q.2 := av_ascQ (cd := cd_119) (by decide +kernel)
  obtain ⟨h0, h⟩ := List.forall_mem_append.mp h
  have h1 := h
  exact (av_brP (av_lqP h0) (av_lqP h1))
def cl_120_0 : List (Nat × av_E) := [(0, av_q (.aload_n 0)), (1, av_qf (.getfield 19) 7 1 2), (4, av_q (.iload_n 1)), (5, av_qc (.invokevirtual 96) 69 1 0 5), (8, av_q (.astore 4)), (10, av_q (.aload 4))]
def cl_120_1 : List (Nat × av_E) := [(12, av_qa (.ifnull 23) 35), (15, av_q (.aload 4)), (17, av_q (.iload_n 3)), (18, av_qc (.invokevirtual 136) 28 1 0 1), (21, av_qa (.ifCond .eq 14) 35), (24, av_q (.aload 4))]
def cl_120_2 : List (Nat × av_E) := [(26, av_q (.iload_n 3)), (27, av_q (.iconst 4)), (28, av_qc (.invokevirtual 139) 29 2 0 1), (31, av_q (.iconst 1)), (32, av_qa (.if_icmp .le 6) 38), (35, av_q (.bipush (-2)))]
def cl_120_3 : List (Nat × av_E) := [(37, av_q (.ireturn)), (38, av_q (.aload_n 0)), (39, av_q (.aload 4)), (41, av_q (.iload_n 3)), (42, av_qc (.invokevirtual 252) 32 1 0 1), (45, av_q (.iload_n 1))]
def cl_120_4 : List (Nat × av_E) := [(46, av_q (.iload_n 2)), (47, av_qc (.invokevirtual 255) 122 3 0 7), (50, av_q (.ireturn))]
def cf_120 : Nat → Option av_E := (av_br 24 (av_br 10 (av_lq cl_120_0) (av_lq cl_120_1)) (av_br 35 (av_lq cl_120_2) (av_br 45 (av_lq cl_120_3) (av_lq cl_120_4))))
set_option maxRecDepth 100000 in
set_option maxHeartbeats 4000000 in
theorem ck_120 : ∀ (pc : Nat) (x : av_E), cf_120 pc = some x → cd_120.lookup pc = some x := by
  have h : ∀ q ∈ cl_120_0 ++ (cl_120_1 ++ (cl_120_2 ++ (cl_120_3 ++ (cl_120_4)))), cd_120.lookup q.1 = some q.2 := av_ascQ (cd := cd_120) (by decide +kernel)
  obtain ⟨h0, h⟩ := List.forall_mem_append.mp h
  obtain ⟨h1, h⟩ := List.forall_mem_append.mp h
  obtain ⟨h2, h⟩ := List.forall_mem_append.mp h
  obtain ⟨h3, h⟩ := List.forall_mem_append.mp h
  have h4 := h
  exact (av_brP (av_brP (av_lqP h0) (av_lqP h1)) (av_brP (av_lqP h2) (av_brP (av_lqP h3) (av_lqP h4))))
def cl_121_0 : List (Nat × av_E) := [(0, av_q (.aload_n 0)), (1, av_qf (.getfield 19) 7 1 2), (4, av_q (.iload_n 1)), (5, av_qc (.invokevirtual 96) 69 1 0 5), (8, av_q (.astore 4)), (10, av_q (.aload 4))]
def cl_121_1 : List (Nat × av_E) := [(12, av_qa (.ifnull 12) 24), (15, av_q (.aload 4)), (17, av_q (.iload_n 3)), (18, av_qc (.invokevirtual 136) 28 1 0 1), (21, av_qa (.ifCond .ne 6) 27), (24, av_q (.bipush (-2)))]
def cl_121_2 : List (Nat × av_E) := [(26, av_q (.ireturn)), (27, av_q (.aload_n 0)), (28, av_q (.aload 4)), (30, av_q (.iload_n 3)), (31, av_qc (.invokevirtual 259) 33 1 0 1), (34, av_q (.iload_n 1))]
def cl_121_3 : List (Nat × av_E) := [(35, av_q (.iload_n 2)), (36, av_qc (.invokevirtual 255) 122 3 0 7), (39, av_q (.ireturn))]
def cf_121 : Nat → Option av_E := (av_br 24 (av_br 10 (av_lq cl_121_0) (av_lq cl_121_1)) (av_br 34 (av_lq cl_121_2) (av_lq cl_121_3)))
set_option maxRecDepth 100000 in
set_option maxHeartbeats 4000000 in
theorem ck_121 : ∀ (pc : Nat) (x : av_E), cf_121 pc = some x → cd_121.lookup pc = some x := by
  have h : ∀ q ∈ cl_121_0 ++ (cl_121_1 ++ (cl_121_2 ++ (cl_121_3))), cd_121.lookup q.1 = some q.2 := av_ascQ (cd := cd_121) (by decide +kernel)
  obtain ⟨h0, h⟩ := List.forall_mem_append.mp h
  obtain ⟨h1, h⟩ := List.forall_mem_append.mp h
  obtain ⟨h2, h⟩ := List.forall_mem_append.mp h
  have h3 := h
  exact (av_brP (av_brP (av_lqP h0) (av_lqP h1)) (av_brP (av_lqP h2) (av_lqP h3)))
def cl_122_0 : List (Nat × av_E) := [(0, av_q (.aload_n 0)), (1, av_qf (.getfield 48) 7 5 2), (4, av_q (.aload_n 0)), (5, av_qf (.getfield 48) 7 5 2), (8, av_qf (.getfield 164) 3 1 2), (11, av_q (.aload_n 1))]
def cl_122_1 : List (Nat × av_E) := [(12, av_q (.iload_n 2)), (13, av_q (.iload_n 3)), (14, av_qc (.invokevirtual 262) 51 4 0 3), (17, av_qa (.ifCond .ne 6) 23), (20, av_q (.bipush (-2))), (22, av_q (.ireturn))]
def cl_122_2 : List (Nat × av_E) := [(23, av_q (.aload_n 0)), (24, av_qf (.getfield 48) 7 5 2), (27, av_qc (.invokevirtual 207) 56 0 0 3), (30, av_q (.aload_n 0)), (31, av_qf (.getfield 48) 7 5 2), (34, av_qf (.getfield 210) 3 8 2)]
def cl_122_3 : List (Nat × av_E) := [(37, av_q (.iconst 0)), (38, av_q (.iaload)), (39, av_q (.ireturn))]
def cf_122 : Nat → Option av_E := (av_br 22 (av_br 11 (av_lq cl_122_0) (av_lq cl_122_1)) (av_br 34 (av_lq cl_122_2) (av_lq cl_122_3)))
set_option maxRecDepth 100000 in
set_option maxHeartbeats 4000000 in
theorem ck_122 : ∀ (pc : Nat) (x : av_E), cf_122 pc = some x → cd_122.lookup pc = some x := by
  have h : ∀ q ∈ cl_122_0 ++ (cl_122_1 ++ (cl_122_2 ++ (cl_122_3))), cd_122.lookup q.1 = some q.2 := av_ascQ (cd := cd_122) (by decide +kernel)
  obtain ⟨h0, h⟩ := List.forall_mem_append.mp h
  obtain ⟨h1, h⟩ := List.forall_mem_append.mp h
  obtain ⟨h2, h⟩ := List.forall_mem_append.mp h
  have h3 := h
  exact (av_brP (av_brP (av_lqP h0) (av_lqP h1)) (av_brP (av_lqP h2) (av_lqP h3)))
def cl_123_0 : List (Nat × av_E) := [(0, av_q (.aload_n 0)), (1, av_qf (.getfield 61) 7 7 0), (4, av_q (.iconst 4)), (5, av_qa (.if_icmp .lt 5) 10), (8, av_q (.iconst (-1))), (9, av_q (.ireturn))]
def cl_123_1 : List (Nat × av_E) := [(10, av_qa (.new 16) 5), (13, av_q (.dup)), (14, av_qc (.invokespecial 18) 68 0 1 5), (17, av_q (.astore_n 1)), (18, av_q (.aload_n 1)), (19, av_q (.aload_n 0))]
def cl_123_2 : List (Nat × av_E) := [(20, av_qf (.getfield 19) 7 1 2), (23, av_qc (.invokevirtual 266) 77 1 0 5), (26, av_q (.aload_n 0)), (27, av_qf (.getfield 23) 7 2 2), (30, av_q (.aload_n 0)), (31, av_qf (.getfield 61) 7 7 0)]
def cl_123_3 : List (Nat × av_E) := [(34, av_q (.aload_n 1)), (35, av_q (.aastore)), (36, av_q (.aload_n 0)), (37, av_q (.dup)), (38, av_qf (.getfield 61) 7 7 0), (41, av_q (.iconst 1))]
def cl_123_4 : List (Nat × av_E) := [(42, av_q (.iadd)), (43, av_qf (.putfield 61) 7 7 0), (46, av_q (.aload_n 0)), (47, av_qf (.getfield 61) 7 7 0), (50, av_q (.iconst 1)), (51, av_q (.isub))]
def cl_123_5 : List (Nat × av_E) := [(52, av_q (.ireturn))]
def cf_123 : Nat → Option av_E := (av_br 31 (av_br 9 (av_lq cl_123_0) (av_br 19 (av_lq cl_123_1) (av_lq cl_123_2))) (av_br 41 (av_lq cl_123_3) (av_br 51 (av_lq cl_123_4) (av_lq cl_123_5))))
set_option maxRecDepth 100000 in
set_option maxHeartbeats 4000000 in
theorem ck_123 : ∀ (pc : Nat) (x : av_E), cf_123 pc = some x → cd_123.lookup pc = some x := by
  have h : ∀ q ∈ cl_123_0 ++ (cl_123_1 ++ (cl_123_2 ++ (cl_123_3 ++ (cl_123_4 ++ (cl_123_5))))), cd_123.lookup q.1 = some q.2 := av_ascQ (cd := cd_123) (by decide +kernel)
  obtain ⟨h0, h⟩ := List.forall_mem_append.mp h
  obtain ⟨h1, h⟩ := List.forall_mem_append.mp h
  obtain ⟨h2, h⟩ := List.forall_mem_append.mp h
  obtain ⟨h3, h⟩ := List.forall_mem_append.mp h
  obtain ⟨h4, h⟩ := List.forall_mem_append.mp h
  have h5 := h
  exact (av_brP (av_brP (av_lqP h0) (av_brP (av_lqP h1) (av_lqP h2))) (av_brP (av_lqP h3) (av_brP (av_lqP h4) (av_lqP h5))))
def cl_124_0 : List (Nat × av_E) := [(0, av_q (.iload_n 1)), (1, av_qa (.ifCond .lt 20) 21), (4, av_q (.iload_n 1)), (5, av_q (.aload_n 0)), (6, av_qf (.getfield 61) 7 7 0), (9, av_qa (.if_icmp .ge 12) 21)]
def cl_124_1 : List (Nat × av_E) := [(12, av_q (.aload_n 0)), (13, av_qf (.getfield 23) 7 2 2), (16, av_q (.iload_n 1)), (17, av_q (.aaload)), (18, av_qa (.ifnonnull 5) 23), (21, av_q (.iconst 0))]
def cl_124_2 : List (Nat × av_E) := [(22, av_qa (.ireturn) 1), (23, av_q (.aload_n 0)), (24, av_qf (.getfield 19) 7 1 2), (27, av_q (.aload_n 0)), (28, av_qf (.getfield 23) 7 2 2), (31, av_q (.iload_n 1))]
def cl_124_3 : List (Nat × av_E) := [(32, av_q (.aaload)), (33, av_qc (.invokevirtual 266) 77 1 0 5), (36, av_q (.aload_n 0)), (37, av_qf (.getfield 48) 7 5 2), (40, av_qc (.invokevirtual 104) 46 0 0 3), (43, av_q (.iconst 1))]
def cl_124_4 : List (Nat × av_E) := [(44, av_qa (.ireturn) 1)]
def cf_124 : Nat → Option av_E := (av_br 21 (av_br 9 (av_lq cl_124_0) (av_lq cl_124_1)) (av_br 31 (av_lq cl_124_2) (av_br 43 (av_lq cl_124_3) (av_lq cl_124_4))))
set_option maxRecDepth 100000 in
set_option maxHeartbeats 4000000 in
theorem ck_124 : ∀ (pc : Nat) (x : av_E), cf_124 pc = some x → cd_124.lookup pc = some x := by
  have h : ∀ q ∈ cl_124_0 ++ (cl_124_1 ++ (cl_124_2 ++ (cl_124_3 ++ (cl_124_4)))), cd_124.lookup q.1 = some q.2 := av_ascQ (cd := cd_124) (by decide +kernel)
  obtain ⟨h0, h⟩ := List.forall_mem_append.mp h
  obtain ⟨h1, h⟩ := List.forall_mem_append.mp h
  obtain ⟨h2, h⟩ := List.forall_mem_append.mp h
  obtain ⟨h3, h⟩ := List.forall_mem_append.mp h
  have h4 := h
  exact (av_brP (av_brP (av_lqP h0) (av_lqP h1)) (av_brP (av_lqP h2) (av_brP (av_lqP h3) (av_lqP h4))))
def cl_125_0 : List (Nat × av_E) := [(0, av_q (.iload_n 1)), (1, av_qw (.tableswitch 84 0 5 #[39, 47, 55, 63, 71, 79]) 39), (40, av_q (.aload_n 0)), (41, av_qf (.getfield 19) 7 1 2), (44, av_qf (.getfield 79) 5 3 0), (47, av_q (.ireturn))]
def cl_125_1 : List (Nat × av_E) := [(48, av_q (.aload_n 0)), (49, av_qf (.getfield 19) 7 1 2), (52, av_qf (.getfield 110) 5 4 0), (55, av_q (.ireturn)), (56, av_q (.aload_n 0)), (57, av_qf (.getfield 19) 7 1 2)]
def cl_125_2 : List (Nat × av_E) := [(60, av_qf (.getfield 124) 5 5 0), (63, av_q (.ireturn)), (64, av_q (.aload_n 0)), (65, av_qf (.getfield 10) 7 0 2), (68, av_qf (.getfield 68) 6 1 0), (71, av_q (.ireturn))]
def cl_125_3 : List (Nat × av_E) := [(72, av_q (.aload_n 0)), (73, av_qf (.getfield 19) 7 1 2), (76, av_qc (.invokevirtual 269) 76 0 0 5), (79, av_q (.ireturn)), (80, av_q (.aload_n 0)), (81, av_qf (.getfield 61) 7 7 0)]
def cl_125_4 : List (Nat × av_E) := [(84, av_q (.ireturn)), (85, av_q (.iconst (-1))), (86, av_q (.ireturn))]
def cf_125 : Nat → Option av_E := (av_br 57 (av_br 47 (av_lq cl_125_0) (av_lq cl_125_1)) (av_br 71 (av_lq cl_125_2) (av_br 81 (av_lq cl_125_3) (av_lq cl_125_4))))
set_option maxRecDepth 100000 in
set_option maxHeartbeats 4000000 in
theorem ck_125 : ∀ (pc : Nat) (x : av_E), cf_125 pc = some x → cd_125.lookup pc = some x := by
  have h : ∀ q ∈ cl_125_0 ++ (cl_125_1 ++ (cl_125_2 ++ (cl_125_3 ++ (cl_125_4)))), cd_125.lookup q.1 = some q.2 := av_ascQ (cd := cd_125) (by decide +kernel)
  obtain ⟨h0, h⟩ := List.forall_mem_append.mp h
  obtain ⟨h1, h⟩ := List.forall_mem_append.mp h
  obtain ⟨h2, h⟩ := List.forall_mem_append.mp h
  obtain ⟨h3, h⟩ := List.forall_mem_append.mp h
  have h4 := h
  exact (av_brP (av_brP (av_lqP h0) (av_lqP h1)) (av_brP (av_lqP h2) (av_brP (av_lqP h3) (av_lqP h4))))
def cl_127_0 : List (Nat × av_E) := [(0, av_q (.iload_n 0)), (1, av_q (.iload_n 1)), (2, av_qa (.if_icmp .lt 12) 14), (5, av_q (.iload_n 0)), (6, av_q (.iload_n 2)), (7, av_qa (.if_icmp .gt 7) 14)]
def cl_127_1 : List (Nat × av_E) := [(10, av_q (.iconst 1)), (11, av_qa (.goto 4) 15), (14, av_q (.iconst 0)), (15, av_qa (.ireturn) 1)]
def cf_127 : Nat → Option av_E := (av_br 7 (av_lq cl_127_0) (av_lq cl_127_1))
set_option maxRecDepth 100000 in
set_option maxHeartbeats 4000000 in
theorem ck_127 : ∀ (pc : Nat) (x : av_E), cf_127 pc = some x → cd_127.lookup pc = some x := by
  have h : ∀ q ∈ cl_127_0 ++ (cl_127_1), cd_127.lookup q.1 = some q.2 := av_ascQ (cd := cd_127) (by decide +kernel)
  obtain ⟨h0, h⟩ := List.forall_mem_append.mp h
  have h1 := h
  exact (av_brP (av_lqP h0) (av_lqP h1))
def cl_128_0 : List (Nat × av_E) := [(0, av_q (.aload_n 0)), (1, av_qf (.getfield 148) 8 17 0), (4, av_q (.bipush 20)), (6, av_q (.iadd)), (7, av_q (.sipush 900)), (10, av_qa (.if_icmp .le 5) 15)]
def cl_128_1 : List (Nat × av_E) := [(13, av_q (.iconst (-1))), (14, av_q (.ireturn)), (15, av_q (.iconst 0)), (16, av_q (.istore 6)), (18, av_q (.iload 6)), (20, av_q (.bipush 20))]
def cl_128_2 : List (Nat × av_E) := [(22, av_qa (.if_icmp .ge 90) 112), (25, av_q (.iload 6)), (27, av_q (.iconst 4)), (28, av_qa (.if_icmp .ge 7) 35), (31, av_q (.iload_n 1)), (32, av_qa (.goto 39) 71)]
def cl_128_3 : List (Nat × av_E) := [(35, av_q (.iload 6)), (37, av_q (.bipush 8)), (39, av_qa (.if_icmp .ge 7) 46), (42, av_q (.iload_n 2)), (43, av_qa (.goto 28) 71), (46, av_q (.iload 6))]
def cl_128_4 : List (Nat × av_E) := [(48, av_q (.bipush 12)), (50, av_qa (.if_icmp .ge 7) 57), (53, av_q (.iload_n 3)), (54, av_qa (.goto 17) 71), (57, av_q (.iload 6)), (59, av_q (.bipush 16))]
def cl_128_5 : List (Nat × av_E) := [(61, av_qa (.if_icmp .ge 8) 69), (64, av_q (.iload 4)), (66, av_qa (.goto 5) 71), (69, av_q (.iload 5)), (71, av_q (.istore 7)), (73, av_q (.aload_n 0))]
def cl_128_6 : List (Nat × av_E) := [(74, av_qf (.getfield 58) 8 16 2), (77, av_q (.aload_n 0)), (78, av_qf (.getfield 148) 8 17 0), (81, av_q (.iload 7)), (83, av_q (.bipush 24)), (85, av_q (.bipush 8))]
def cl_128_7 : List (Nat × av_E) := [(87, av_q (.iload 6)), (89, av_q (.iconst 4)), (90, av_q (.irem)), (91, av_q (.imul)), (92, av_q (.isub)), (93, av_q (.ishr))]
def cl_128_8 : List (Nat × av_E) := [(94, av_q (.i2b)), (95, av_q (.bastore)), (96, av_q (.aload_n 0)), (97, av_q (.dup)), (98, av_qf (.getfield 148) 8 17 0), (101, av_q (.iconst 1))]
def cl_128_9 : List (Nat × av_E) := [(102, av_q (.iadd)), (103, av_qf (.putfield 148) 8 17 0), (106, av_q (.iinc 6 1)), (109, av_qa (.goto (-91)) 18), (112, av_q (.aload_n 0)), (113, av_qf (.getfield 148) 8 17 0)]
def cl_128_10 : List (Nat × av_E) := [(116, av_q (.ireturn))]
def cf_128 : Nat → Option av_E := (av_br 59 (av_br 20 (av_br 10 (av_lq cl_128_0) (av_lq cl_128_1)) (av_br 32 (av_lq cl_128_2) (av_br 46 (av_lq cl_128_3) (av_lq cl_128_4)))) (av_br 93 (av_br 73 (av_lq cl_128_5) (av_br 85 (av_lq cl_128_6) (av_lq cl_128_7))) (av_br 101 (av_lq cl_128_8) (av_br 113 (av_lq cl_128_9) (av_lq cl_128_10)))))
set_option maxRecDepth 100000 in
set_option maxHeartbeats 4000000 in
theorem ck_128 : ∀ (pc : Nat) (x : av_E), cf_128 pc = some x → cd_128.lookup pc = some x := by
  have h : ∀ q ∈ cl_128_0 ++ (cl_128_1 ++ (cl_128_2 ++ (cl_128_3 ++ (cl_128_4 ++ (cl_128_5 ++ (cl_128_6 ++ (cl_128_7 ++ (cl_128_8 ++ (cl_128_9 ++ (cl_128_10)))))))))), cd_128.lookup q.1 = some q.2 := av_ascQ (cd := cd_128) (by decide +kernel)
  obtain ⟨h0, h⟩ := List.forall_mem_append.mp h
  obtain ⟨h1, h⟩ := List.forall_mem_append.mp h
  obtain ⟨h2, h⟩ := List.forall_mem_append.mp h
  obtain ⟨h3, h⟩ := List.forall_mem_append.mp h
  obtain ⟨h4, h⟩ := List.forall_mem_append.mp h
  obtain ⟨h5, h⟩ := List.forall_mem_append.mp h
  obtain ⟨h6, h⟩ := List.forall_mem_append.mp h
  obtain ⟨h7, h⟩ := List.forall_mem_append.mp h
  obtain ⟨h8, h⟩ := List.forall_mem_append.mp h
  obtain ⟨h9, h⟩ := List.forall_mem_append.mp h
  have h10 := h
  exact (av_brP (av_brP (av_brP (av_lqP h0) (av_lqP h1)) (av_brP (av_lqP h2) (av_brP (av_lqP h3) (av_lqP h4)))) (av_brP (av_brP (av_lqP h5) (av_brP (av_lqP h6) (av_lqP h7))) (av_brP (av_lqP h8) (av_brP (av_lqP h9) (av_lqP h10)))))
def cl_129_0 : List (Nat × av_E) := [(0, av_q (.aload_n 0)), (1, av_qf (.getfield 151) 8 20 0), (4, av_q (.aload_n 0)), (5, av_qf (.getfield 154) 8 19 0), (8, av_qa (.if_icmp .ge 19) 27), (11, av_q (.aload_n 0))]
def cl_129_1 : List (Nat × av_E) := [(12, av_qf (.getfield 58) 8 16 2), (15, av_q (.aload_n 0)), (16, av_qf (.getfield 151) 8 20 0), (19, av_q (.baload)), (20, av_q (.sipush 255)), (23, av_q (.iand))]
def cl_129_2 : List (Nat × av_E) := [(24, av_qa (.goto 4) 28), (27, av_q (.iconst (-1))), (28, av_q (.ireturn))]
def cf_129 : Nat → Option av_E := (av_br 11 (av_lq cl_129_0) (av_br 23 (av_lq cl_129_1) (av_lq cl_129_2)))
set_option maxRecDepth 100000 in
set_option maxHeartbeats 4000000 in
theorem ck_129 : ∀ (pc : Nat) (x : av_E), cf_129 pc = some x → cd_129.lookup pc = some x := by
  have h : ∀ q ∈ cl_129_0 ++ (cl_129_1 ++ (cl_129_2)), cd_129.lookup q.1 = some q.2 := av_ascQ (cd := cd_129) (by decide +kernel)
  obtain ⟨h0, h⟩ := List.forall_mem_append.mp h
  obtain ⟨h1, h⟩ := List.forall_mem_append.mp h
  have h2 := h
  exact (av_brP (av_lqP h0) (av_brP (av_lqP h1) (av_lqP h2)))
def cl_130_0 : List (Nat × av_E) := [(0, av_q (.aload_n 0)), (1, av_qc (.invokevirtual 157) 129 0 0 8), (4, av_q (.bipush 32)), (6, av_qa (.if_icmp .eq 12) 18), (9, av_q (.aload_n 0)), (10, av_qc (.invokevirtual 157) 129 0 0 8)]
def cl_130_1 : List (Nat × av_E) := [(13, av_q (.bipush 10)), (15, av_qa (.if_icmp .ne 16) 31), (18, av_q (.aload_n 0)), (19, av_q (.dup)), (20, av_qf (.getfield 151) 8 20 0), (23, av_q (.iconst 1))]
def cl_130_2 : List (Nat × av_E) := [(24, av_q (.iadd)), (25, av_qf (.putfield 151) 8 20 0), (28, av_qa (.goto (-28)) 0), (31, av_q (.aload_n 0)), (32, av_q (.aload_n 0)), (33, av_qf (.getfield 151) 8 20 0)]
def cl_130_3 : List (Nat × av_E) := [(36, av_qf (.putfield 161) 8 21 0), (39, av_q (.aload_n 0)), (40, av_qc (.invokevirtual 157) 129 0 0 8), (43, av_q (.istore_n 1)), (44, av_q (.aload_n 0)), (45, av_qk (.ldc2_w 164) (-1))]
def cl_130_4 : List (Nat × av_E) := [(48, av_qf (.putfield 166) 8 24 1), (51, av_q (.aload_n 0)), (52, av_q (.iconst 0)), (53, av_qf (.putfield 170) 8 23 0), (56, av_q (.iload_n 1)), (57, av_qa (.ifCond .ge 11) 68)]
def cl_130_5 : List (Nat × av_E) := [(60, av_q (.aload_n 0)), (61, av_q (.iconst 0)), (62, av_qf (.putfield 173) 8 22 0), (65, av_qa (.goto 209) 274), (68, av_q (.iload_n 1)), (69, av_q (.bipush 97))]
def cl_130_6 : List (Nat × av_E) := [(71, av_q (.bipush 122)), (73, av_qc (.invokestatic 176) 127 3 2 8), (76, av_qa (.ifCond .eq 81) 157), (79, av_q (.aload_n 0)), (80, av_q (.iconst 1)), (81, av_qf (.putfield 173) 8 22 0)]
def cl_130_7 : List (Nat × av_E) := [(84, av_q (.aload_n 0)), (85, av_q (.lconst 0)), (86, av_qf (.putfield 166) 8 24 1), (89, av_q (.aload_n 0)), (90, av_qc (.invokevirtual 157) 129 0 0 8), (93, av_q (.bipush 97))]
def cl_130_8 : List (Nat × av_E) := [(95, av_q (.bipush 122)), (97, av_qc (.invokestatic 176) 127 3 2 8), (100, av_qa (.ifCond .eq 174) 274), (103, av_q (.aload_n 0)), (104, av_q (.aload_n 0)), (105, av_qf (.getfield 151) 8 20 0)]
def cl_130_9 : List (Nat × av_E) := [(108, av_q (.aload_n 0)), (109, av_qf (.getfield 161) 8 21 0), (112, av_q (.isub)), (113, av_q (.bipush 8)), (115, av_qa (.if_icmp .ge 23) 138), (118, av_q (.aload_n 0))]
def cl_130_10 : List (Nat × av_E) := [(119, av_qf (.getfield 166) 8 24 1), (122, av_qk (.ldc2_w 180) (27)), (125, av_q (.lmul)), (126, av_q (.aload_n 0)), (127, av_qc (.invokevirtual 157) 129 0 0 8), (130, av_q (.bipush 96))]
def cl_130_11 : List (Nat × av_E) := [(132, av_q (.isub)), (133, av_q (.i2l)), (134, av_q (.ladd)), (135, av_qa (.goto 6) 141), (138, av_qk (.ldc2_w 164) (-1)), (141, av_qf (.putfield 166) 8 24 1)]
def cl_130_12 : List (Nat × av_E) := [(144, av_q (.aload_n 0)), (145, av_q (.dup)), (146, av_qf (.getfield 151) 8 20 0), (149, av_q (.iconst 1)), (150, av_q (.iadd)), (151, av_qf (.putfield 151) 8 20 0)]
def cl_130_13 : List (Nat × av_E) := [(154, av_qa (.goto (-65)) 89), (157, av_q (.iload_n 1)), (158, av_q (.bipush 48)), (160, av_q (.bipush 57)), (162, av_qc (.invokestatic 176) 127 3 2 8), (165, av_qa (.ifCond .eq 83) 248)]
def cl_130_14 : List (Nat × av_E) := [(168, av_q (.aload_n 0)), (169, av_qc (.invokevirtual 157) 129 0 0 8), (172, av_q (.bipush 48)), (174, av_q (.bipush 57)), (176, av_qc (.invokestatic 176) 127 3 2 8), (179, av_qa (.ifCond .eq 44) 223)]
def cl_130_15 : List (Nat × av_E) := [(182, av_q (.aload_n 0)), (183, av_qf (.getfield 170) 8 23 0), (186, av_qk (.ldc 182) (1000000)), (188, av_qa (.if_icmp .ge 22) 210), (191, av_q (.aload_n 0)), (192, av_q (.bipush 10))]
def cl_130_16 : List (Nat × av_E) := [(194, av_q (.aload_n 0)), (195, av_qf (.getfield 170) 8 23 0), (198, av_q (.imul)), (199, av_q (.aload_n 0)), (200, av_qc (.invokevirtual 157) 129 0 0 8), (203, av_q (.iadd))]
def cl_130_17 : List (Nat × av_E) := [(204, av_q (.bipush 48)), (206, av_q (.isub)), (207, av_qf (.putfield 170) 8 23 0), (210, av_q (.aload_n 0)), (211, av_q (.dup)), (212, av_qf (.getfield 151) 8 20 0)]
def cl_130_18 : List (Nat × av_E) := [(215, av_q (.iconst 1)), (216, av_q (.iadd)), (217, av_qf (.putfield 151) 8 20 0), (220, av_qa (.goto (-52)) 168), (223, av_q (.aload_n 0)), (224, av_q (.aload_n 0))]
def cl_130_19 : List (Nat × av_E) := [(225, av_qf (.getfield 151) 8 20 0), (228, av_q (.aload_n 0)), (229, av_qf (.getfield 161) 8 21 0), (232, av_q (.isub)), (233, av_q (.iconst 4)), (234, av_qa (.if_icmp .gt 7) 241)]
def cl_130_20 : List (Nat × av_E) := [(237, av_q (.iconst 2)), (238, av_qa (.goto 4) 242), (241, av_q (.iconst 3)), (242, av_qf (.putfield 173) 8 22 0), (245, av_qa (.goto 29) 274), (248, av_q (.aload_n 0))]
def cl_130_21 : List (Nat × av_E) := [(249, av_q (.iload_n 1)), (250, av_q (.bipush 59)), (252, av_qa (.if_icmp .ne 8) 260), (255, av_q (.bipush 59)), (257, av_qa (.goto 4) 261), (260, av_q (.iconst 3))]
def cl_130_22 : List (Nat × av_E) := [(261, av_qf (.putfield 173) 8 22 0), (264, av_q (.aload_n 0)), (265, av_q (.dup)), (266, av_qf (.getfield 151) 8 20 0), (269, av_q (.iconst 1)), (270, av_q (.iadd))]
def cl_130_23 : List (Nat × av_E) := [(271, av_qf (.putfield 151) 8 20 0), (274, av_q (.return_))]
def cf_130 : Nat → Option av_E := (av_br 141 (av_br 69 (av_br 33 (av_br 10 (av_lq cl_130_0) (av_br 23 (av_lq cl_130_1) (av_lq cl_130_2))) (av_br 45 (av_lq cl_130_3) (av_br 57 (av_lq cl_130_4) (av_lq cl_130_5)))) (av_br 105 (av_br 81 (av_lq cl_130_6) (av_br 93 (av_lq cl_130_7) (av_lq cl_130_8))) (av_br 118 (av_lq cl_130_9) (av_br 130 (av_lq cl_130_10) (av_lq cl_130_11))))) (av_br 212 (av_br 179 (av_br 151 (av_lq cl_130_12) (av_br 165 (av_lq cl_130_13) (av_lq cl_130_14))) (av_br 192 (av_lq cl_130_15) (av_br 203 (av_lq cl_130_16) (av_lq cl_130_17)))) (av_br 248 (av_br 224 (av_lq cl_130_18) (av_br 234 (av_lq cl_130_19) (av_lq cl_130_20))) (av_br 260 (av_lq cl_130_21) (av_br 270 (av_lq cl_130_22) (av_lq cl_130_23))))))
set_option maxRecDepth 100000 in
set_option maxHeartbeats 4000000 in
theorem ck_130 : ∀ (pc : Nat) (x : av_E), cf_130 pc = some x → cd_130.lookup pc = some x := by
  have h : ∀ q ∈ cl_130_0 ++ (cl_130_1 ++ (cl_130_2 ++ (cl_130_3 ++ (cl_130_4 ++ (cl_130_5 ++ (cl_130_6 ++ (cl_130_7 ++ (cl_130_8 ++ (cl_130_9 ++ (cl_130_10 ++ (cl_130_11 ++ (cl_130_12 ++ (cl_130_13 ++ (cl_130_14 ++ (cl_130_15 ++ (cl_130_16 ++ (cl_130_17 ++ (cl_130_18 ++ (cl_130_19 ++ (cl_130_20 ++ (cl_130_21 ++ (cl_130_22 ++ (cl_130_23))))))))))))))))))))))), cd_130.lookup q.1 = some q.2 := av_ascQ (cd := cd_130) (by decide +kernel)
  obtain ⟨h0, h⟩ := List.forall_mem_append.mp h
  obtain ⟨h1, h⟩ := List.forall_mem_append.mp h
  obtain ⟨h2, h⟩ := List.forall_mem_append.mp h
  obtain ⟨h3, h⟩ := List.forall_mem_append.mp h
  obtain ⟨h4, h⟩ := List.forall_mem_append.mp h
  obtain ⟨h5, h⟩ := List.forall_mem_append.mp h
  obtain ⟨h6, h⟩ := List.forall_mem_append.mp h
  obtain ⟨h7, h⟩ := List.forall_mem_append.mp h
  obtain ⟨h8, h⟩ := List.forall_mem_append.mp h
  obtain ⟨h9, h⟩ := List.forall_mem_append.mp h
  obtain ⟨h10, h⟩ := List.forall_mem_append.mp h
  obtain ⟨h11, h⟩ := List.forall_mem_append.mp h
  obtain ⟨h12, h⟩ := List.forall_mem_append.mp h
  obtain ⟨h13, h⟩ := List.forall_mem_append.mp h
  obtain ⟨h14, h⟩ := List.forall_mem_append.mp h
  obtain ⟨h15, h⟩ := List.forall_mem_append.mp h
  obtain ⟨h16, h⟩ := List.forall_mem_append.mp h
  obtain ⟨h17, h⟩ := List.forall_mem_append.mp h
  obtain ⟨h18, h⟩ := List.forall_mem_append.mp h
  obtain ⟨h19, h⟩ := List.forall_mem_append.mp h
  obtain ⟨h20, h⟩ := List.forall_mem_append.mp h
  obtain ⟨h21, h⟩ := List.forall_mem_append.mp h
  obtain ⟨h22, h⟩ := List.forall_mem_append.mp h
  have h23 := h
  exact (av_brP (av_brP (av_brP (av_brP (av_lqP h0) (av_brP (av_lqP h1) (av_lqP h2))) (av_brP (av_lqP h3) (av_brP (av_lqP h4) (av_lqP h5)))) (av_brP (av_brP (av_lqP h6) (av_brP (av_lqP h7) (av_lqP h8))) (av_brP (av_lqP h9) (av_brP (av_lqP h10) (av_lqP h11))))) (av_brP (av_brP (av_brP (av_lqP h12) (av_brP (av_lqP h13) (av_lqP h14))) (av_brP (av_lqP h15) (av_brP (av_lqP h16) (av_lqP h17)))) (av_brP (av_brP (av_lqP h18) (av_brP (av_lqP h19) (av_lqP h20))) (av_brP (av_lqP h21) (av_brP (av_lqP h22) (av_lqP h23))))))
def cl_131_0 : List (Nat × av_E) := [(0, av_q (.aload_n 0)), (1, av_qf (.getfield 183) 8 25 3), (4, av_qa (.ifCond .eq 4) 8), (7, av_q (.return_)), (8, av_q (.aload_n 0)), (9, av_q (.iconst 1))]
def cl_131_1 : List (Nat × av_E) := [(10, av_qf (.putfield 183) 8 25 3), (13, av_q (.aload_n 0)), (14, av_q (.aload_n 0)), (15, av_qf (.getfield 161) 8 21 0), (18, av_qf (.putfield 62) 8 18 0), (21, av_q (.return_))]
def cf_131 : Nat → Option av_E := (av_br 9 (av_lq cl_131_0) (av_lq cl_131_1))
set_option maxRecDepth 100000 in
set_option maxHeartbeats 4000000 in
theorem ck_131 : ∀ (pc : Nat) (x : av_E), cf_131 pc = some x → cd_131.lookup pc = some x := by
  have h : ∀ q ∈ cl_131_0 ++ (cl_131_1), cd_131.lookup q.1 = some q.2 := av_ascQ (cd := cd_131) (by decide +kernel)
  obtain ⟨h0, h⟩ := List.forall_mem_append.mp h
  have h1 := h
  exact (av_brP (av_lqP h0) (av_lqP h1))
def cl_132_0 : List (Nat × av_E) := [(0, av_q (.aload_n 0)), (1, av_qf (.getfield 183) 8 25 3), (4, av_qa (.ifCond .ne 24) 28), (7, av_q (.aload_n 0)), (8, av_qf (.getfield 173) 8 22 0), (11, av_q (.iconst 1))]
def cl_132_1 : List (Nat × av_E) := [(12, av_qa (.if_icmp .ne 16) 28), (15, av_q (.aload_n 0)), (16, av_qf (.getfield 166) 8 24 1), (19, av_q (.lload_n 1)), (20, av_q (.lcmp)), (21, av_qa (.ifCond .ne 7) 28)]
def cl_132_2 : List (Nat × av_E) := [(24, av_q (.iconst 1)), (25, av_qa (.goto 4) 29), (28, av_q (.iconst 0)), (29, av_qa (.ireturn) 1)]
def cf_132 : Nat → Option av_E := (av_br 11 (av_lq cl_132_0) (av_br 21 (av_lq cl_132_1) (av_lq cl_132_2)))
set_option maxRecDepth 100000 in
set_option maxHeartbeats 4000000 in
theorem ck_132 : ∀ (pc : Nat) (x : av_E), cf_132 pc = some x → cd_132.lookup pc = some x := by
  have h : ∀ q ∈ cl_132_0 ++ (cl_132_1 ++ (cl_132_2)), cd_132.lookup q.1 = some q.2 := av_ascQ (cd := cd_132) (by decide +kernel)
  obtain ⟨h0, h⟩ := List.forall_mem_append.mp h
  obtain ⟨h1, h⟩ := List.forall_mem_append.mp h
  have h2 := h
  exact (av_brP (av_lqP h0) (av_brP (av_lqP h1) (av_lqP h2)))
def cl_133_0 : List (Nat × av_E) := [(0, av_q (.aload_n 0)), (1, av_q (.lload_n 1)), (2, av_qc (.invokevirtual 187) 132 1 0 8), (5, av_qa (.ifCond .eq 10) 15), (8, av_q (.aload_n 0)), (9, av_qc (.invokevirtual 191) 130 0 0 8)]
def cl_133_1 : List (Nat × av_E) := [(12, av_qa (.goto 7) 19), (15, av_q (.aload_n 0)), (16, av_qc (.invokevirtual 194) 131 0 0 8), (19, av_q (.return_))]
def cf_133 : Nat → Option av_E := (av_br 9 (av_lq cl_133_0) (av_lq cl_133_1))
set_option maxRecDepth 100000 in
set_option maxHeartbeats 4000000 in
theorem ck_133 : ∀ (pc : Nat) (x : av_E), cf_133 pc = some x → cd_133.lookup pc = some x := by
  have h : ∀ q ∈ cl_133_0 ++ (cl_133_1), cd_133.lookup q.1 = some q.2 := av_ascQ (cd := cd_133) (by decide +kernel)
  obtain ⟨h0, h⟩ := List.forall_mem_append.mp h
  have h1 := h
  exact (av_brP (av_lqP h0) (av_lqP h1))
def cl_134_0 : List (Nat × av_E) := [(0, av_q (.aload_n 0)), (1, av_qf (.getfield 170) 8 23 0), (4, av_q (.istore_n 3)), (5, av_q (.aload_n 0)), (6, av_qf (.getfield 183) 8 25 3), (9, av_qa (.ifCond .eq 5) 14)]
def cl_134_1 : List (Nat × av_E) := [(12, av_q (.iconst 0)), (13, av_q (.ireturn)), (14, av_q (.aload_n 0)), (15, av_qf (.getfield 173) 8 22 0), (18, av_q (.iconst 2)), (19, av_qa (.if_icmp .ne 13) 32)]
def cl_134_2 : List (Nat × av_E) := [(22, av_q (.iload_n 3)), (23, av_q (.iload_n 1)), (24, av_qa (.if_icmp .lt 8) 32), (27, av_q (.iload_n 3)), (28, av_q (.iload_n 2)), (29, av_qa (.if_icmp .le 9) 38)]
def cl_134_3 : List (Nat × av_E) := [(32, av_q (.aload_n 0)), (33, av_qc (.invokevirtual 194) 131 0 0 8), (36, av_q (.iconst 0)), (37, av_q (.ireturn)), (38, av_q (.aload_n 0)), (39, av_qc (.invokevirtual 191) 130 0 0 8)]
def cl_134_4 : List (Nat × av_E) := [(42, av_q (.iload_n 3)), (43, av_q (.ireturn))]
def cf_134 : Nat → Option av_E := (av_br 19 (av_br 9 (av_lq cl_134_0) (av_lq cl_134_1)) (av_br 29 (av_lq cl_134_2) (av_br 39 (av_lq cl_134_3) (av_lq cl_134_4))))
set_option maxRecDepth 100000 in
set_option maxHeartbeats 4000000 in
theorem ck_134 : ∀ (pc : Nat) (x : av_E), cf_134 pc = some x → cd_134.lookup pc = some x := by
  have h : ∀ q ∈ cl_134_0 ++ (cl_134_1 ++ (cl_134_2 ++ (cl_134_3 ++ (cl_134_4)))), cd_134.lookup q.1 = some q.2 := av_ascQ (cd := cd_134) (by decide +kernel)
  obtain ⟨h0, h⟩ := List.forall_mem_append.mp h
  obtain ⟨h1, h⟩ := List.forall_mem_append.mp h
  obtain ⟨h2, h⟩ := List.forall_mem_append.mp h
  obtain ⟨h3, h⟩ := List.forall_mem_append.mp h
  have h4 := h
  exact (av_brP (av_brP (av_lqP h0) (av_lqP h1)) (av_brP (av_lqP h2) (av_brP (av_lqP h3) (av_lqP h4))))
def cl_135_0 : List (Nat × av_E) := [(0, av_q (.aload_n 0)), (1, av_qf (.getfield 183) 8 25 3), (4, av_qa (.ifCond .eq 4) 8), (7, av_q (.return_)), (8, av_q (.aload_n 0)), (9, av_qf (.getfield 173) 8 22 0)]
def cl_135_1 : List (Nat × av_E) := [(12, av_q (.bipush 59)), (14, av_qa (.if_icmp .ne 10) 24), (17, av_q (.aload_n 0)), (18, av_qc (.invokevirtual 191) 130 0 0 8), (21, av_qa (.goto 7) 28), (24, av_q (.aload_n 0))]
def cl_135_2 : List (Nat × av_E) := [(25, av_qc (.invokevirtual 194) 131 0 0 8), (28, av_q (.return_))]
def cf_135 : Nat → Option av_E := (av_br 9 (av_lq cl_135_0) (av_br 24 (av_lq cl_135_1) (av_lq cl_135_2)))
set_option maxRecDepth 100000 in
set_option maxHeartbeats 4000000 in
theorem ck_135 : ∀ (pc : Nat) (x : av_E), cf_135 pc = some x → cd_135.lookup pc = some x := by
  have h : ∀ q ∈ cl_135_0 ++ (cl_135_1 ++ (cl_135_2)), cd_135.lookup q.1 = some q.2 := av_ascQ (cd := cd_135) (by decide +kernel)
  obtain ⟨h0, h⟩ := List.forall_mem_append.mp h
  obtain ⟨h1, h⟩ := List.forall_mem_append.mp h
  have h2 := h
  exact (av_brP (av_lqP h0) (av_brP (av_lqP h1) (av_lqP h2)))
def cl_136_0 : List (Nat × av_E) := [(0, av_q (.aload_n 0)), (1, av_q (.iload_n 1)), (2, av_qf (.putfield 154) 8 19 0), (5, av_q (.aload_n 0)), (6, av_q (.iconst 0)), (7, av_qf (.putfield 148) 8 17 0)]
def cl_136_1 : List (Nat × av_E) := [(10, av_q (.aload_n 0)), (11, av_q (.iconst 0)), (12, av_qf (.putfield 151) 8 20 0), (15, av_q (.aload_n 0)), (16, av_q (.iconst (-1))), (17, av_qf (.putfield 62) 8 18 0)]
def cl_136_2 : List (Nat × av_E) := [(20, av_q (.aload_n 0)), (21, av_q (.iconst 0)), (22, av_qf (.putfield 183) 8 25 3), (25, av_q (.aload_n 0)), (26, av_qc (.invokevirtual 191) 130 0 0 8), (29, av_q (.return_))]
def cf_136 : Nat → Option av_E := (av_br 7 (av_lq cl_136_0) (av_br 17 (av_lq cl_136_1) (av_lq cl_136_2)))
set_option maxRecDepth 100000 in
set_option maxHeartbeats 4000000 in
theorem ck_136 : ∀ (pc : Nat) (x : av_E), cf_136 pc = some x → cd_136.lookup pc = some x := by
  have h : ∀ q ∈ cl_136_0 ++ (cl_136_1 ++ (cl_136_2)), cd_136.lookup q.1 = some q.2 := av_ascQ (cd := cd_136) (by decide +kernel)
  obtain ⟨h0, h⟩ := List.forall_mem_append.mp h
  obtain ⟨h1, h⟩ := List.forall_mem_append.mp h
  have h2 := h
  exact (av_brP (av_lqP h0) (av_brP (av_lqP h1) (av_lqP h2)))
def cl_137_0 : List (Nat × av_E) := [(0, av_q (.aload_n 0)), (1, av_qf (.getfield 183) 8 25 3), (4, av_qa (.ifCond .eq 5) 9), (7, av_q (.iconst 0)), (8, av_q (.ireturn)), (9, av_q (.aload_n 0))]
def cl_137_1 : List (Nat × av_E) := [(10, av_qf (.getfield 173) 8 22 0), (13, av_q (.iconst 1)), (14, av_qa (.if_icmp .ne 33) 47), (17, av_q (.aload_n 0)), (18, av_qf (.getfield 166) 8 24 1), (21, av_q (.lconst 1))]
def cl_137_2 : List (Nat × av_E) := [(22, av_q (.lcmp)), (23, av_qa (.ifCond .lt 24) 47), (26, av_q (.aload_n 0)), (27, av_qf (.getfield 166) 8 24 1), (30, av_qk (.ldc2_w 197) (3)), (33, av_q (.lcmp))]
def cl_137_3 : List (Nat × av_E) := [(34, av_qa (.ifCond .gt 13) 47), (37, av_q (.aload_n 0)), (38, av_qf (.getfield 166) 8 24 1), (41, av_q (.l2i)), (42, av_q (.iconst 1)), (43, av_q (.isub))]
def cl_137_4 : List (Nat × av_E) := [(44, av_qa (.goto 4) 48), (47, av_q (.iconst (-1))), (48, av_q (.istore_n 2)), (49, av_q (.iload_n 2)), (50, av_qa (.ifCond .lt 8) 58), (53, av_q (.iload_n 2))]
def cl_137_5 : List (Nat × av_E) := [(54, av_q (.iload_n 1)), (55, av_qa (.if_icmp .ne 9) 64), (58, av_q (.aload_n 0)), (59, av_qc (.invokevirtual 194) 131 0 0 8), (62, av_q (.iconst 0)), (63, av_q (.ireturn))]
def cl_137_6 : List (Nat × av_E) := [(64, av_q (.aload_n 0)), (65, av_qc (.invokevirtual 191) 130 0 0 8), (68, av_q (.iload_n 2)), (69, av_q (.ireturn))]
def cf_137 : Nat → Option av_E := (av_br 33 (av_br 9 (av_lq cl_137_0) (av_br 21 (av_lq cl_137_1) (av_lq cl_137_2))) (av_br 53 (av_br 43 (av_lq cl_137_3) (av_lq cl_137_4)) (av_br 63 (av_lq cl_137_5) (av_lq cl_137_6))))
set_option maxRecDepth 100000 in
set_option maxHeartbeats 4000000 in
theorem ck_137 : ∀ (pc : Nat) (x : av_E), cf_137 pc = some x → cd_137.lookup pc = some x := by
  have h : ∀ q ∈ cl_137_0 ++ (cl_137_1 ++ (cl_137_2 ++ (cl_137_3 ++ (cl_137_4 ++ (cl_137_5 ++ (cl_137_6)))))), cd_137.lookup q.1 = some q.2 := av_ascQ (cd := cd_137) (by decide +kernel)
  obtain ⟨h0, h⟩ := List.forall_mem_append.mp h
  obtain ⟨h1, h⟩ := List.forall_mem_append.mp h
  obtain ⟨h2, h⟩ := List.forall_mem_append.mp h
  obtain ⟨h3, h⟩ := List.forall_mem_append.mp h
  obtain ⟨h4, h⟩ := List.forall_mem_append.mp h
  obtain ⟨h5, h⟩ := List.forall_mem_append.mp h
  have h6 := h
  exact (av_brP (av_brP (av_lqP h0) (av_brP (av_lqP h1) (av_lqP h2))) (av_brP (av_brP (av_lqP h3) (av_lqP h4)) (av_brP (av_lqP h5) (av_lqP h6))))
def cl_138_0 : List (Nat × av_E) := [(0, av_q (.aload_n 0)), (1, av_qf (.getfield 183) 8 25 3), (4, av_qa (.ifCond .ne 11) 15), (7, av_q (.aload_n 0)), (8, av_qf (.getfield 173) 8 22 0), (11, av_q (.iconst 1))]
def cl_138_1 : List (Nat × av_E) := [(12, av_qa (.if_icmp .eq 5) 17), (15, av_q (.iconst (-1))), (16, av_q (.ireturn)), (17, av_q (.aload_n 0)), (18, av_qf (.getfield 166) 8 24 1), (21, av_qk (.ldc2_w 199) (8863997))]
def cl_138_2 : List (Nat × av_E) := [(24, av_q (.lcmp)), (25, av_qa (.ifCond .ne 5) 30), (28, av_q (.iconst 0)), (29, av_q (.ireturn)), (30, av_q (.aload_n 0)), (31, av_qf (.getfield 166) 8 24 1)]
def cl_138_3 : List (Nat × av_E) := [(34, av_qk (.ldc2_w 201) (271277)), (37, av_q (.lcmp)), (38, av_qa (.ifCond .ne 5) 43), (41, av_q (.iconst 1)), (42, av_q (.ireturn)), (43, av_q (.aload_n 0))]
def cl_138_4 : List (Nat × av_E) := [(44, av_qf (.getfield 166) 8 24 1), (47, av_qk (.ldc2_w 203) (2968)), (50, av_q (.lcmp)), (51, av_qa (.ifCond .ne 5) 56), (54, av_q (.iconst 2)), (55, av_q (.ireturn))]
def cl_138_5 : List (Nat × av_E) := [(56, av_q (.aload_n 0)), (57, av_qf (.getfield 166) 8 24 1), (60, av_qk (.ldc2_w 205) (326369)), (63, av_q (.lcmp)), (64, av_qa (.ifCond .ne 5) 69), (67, av_q (.iconst 3))]
def cl_138_6 : List (Nat × av_E) := [(68, av_q (.ireturn)), (69, av_q (.aload_n 0)), (70, av_qf (.getfield 166) 8 24 1), (73, av_qk (.ldc2_w 207) (1905383)), (76, av_q (.lcmp)), (77, av_qa (.ifCond .ne 5) 82)]
def cl_138_7 : List (Nat × av_E) := [(80, av_q (.iconst 4)), (81, av_q (.ireturn)), (82, av_q (.iconst (-1))), (83, av_q (.ireturn))]
def cf_138 : Nat → Option av_E := (av_br 43 (av_br 21 (av_br 11 (av_lq cl_138_0) (av_lq cl_138_1)) (av_br 31 (av_lq cl_138_2) (av_lq cl_138_3))) (av_br 67 (av_br 55 (av_lq cl_138_4) (av_lq cl_138_5)) (av_br 77 (av_lq cl_138_6) (av_lq cl_138_7))))
set_option maxRecDepth 100000 in
set_option maxHeartbeats 4000000 in
theorem ck_138 : ∀ (pc : Nat) (x : av_E), cf_138 pc = some x → cd_138.lookup pc = some x := by
  have h : ∀ q ∈ cl_138_0 ++ (cl_138_1 ++ (cl_138_2 ++ (cl_138_3 ++ (cl_138_4 ++ (cl_138_5 ++ (cl_138_6 ++ (cl_138_7))))))), cd_138.lookup q.1 = some q.2 := av_ascQ (cd := cd_138) (by decide +kernel)
  obtain ⟨h0, h⟩ := List.forall_mem_append.mp h
  obtain ⟨h1, h⟩ := List.forall_mem_append.mp h
  obtain ⟨h2, h⟩ := List.forall_mem_append.mp h
  obtain ⟨h3, h⟩ := List.forall_mem_append.mp h
  obtain ⟨h4, h⟩ := List.forall_mem_append.mp h
  obtain ⟨h5, h⟩ := List.forall_mem_append.mp h
  obtain ⟨h6, h⟩ := List.forall_mem_append.mp h
  have h7 := h
  exact (av_brP (av_brP (av_brP (av_lqP h0) (av_lqP h1)) (av_brP (av_lqP h2) (av_lqP h3))) (av_brP (av_brP (av_lqP h4) (av_lqP h5)) (av_brP (av_lqP h6) (av_lqP h7))))
def cl_139_0 : List (Nat × av_E) := [(0, av_q (.aload_n 0)), (1, av_qf (.getfield 183) 8 25 3), (4, av_qa (.ifCond .ne 11) 15), (7, av_q (.aload_n 0)), (8, av_qf (.getfield 173) 8 22 0), (11, av_q (.iconst 1))]
def cl_139_1 : List (Nat × av_E) := [(12, av_qa (.if_icmp .eq 5) 17), (15, av_q (.iconst (-1))), (16, av_q (.ireturn)), (17, av_q (.aload_n 0)), (18, av_qf (.getfield 166) 8 24 1), (21, av_qk (.ldc2_w 209) (8094240))]
def cl_139_2 : List (Nat × av_E) := [(24, av_q (.lcmp)), (25, av_qa (.ifCond .ne 5) 30), (28, av_q (.iconst 0)), (29, av_q (.ireturn)), (30, av_q (.aload_n 0)), (31, av_qf (.getfield 166) 8 24 1)]
def cl_139_3 : List (Nat × av_E) := [(34, av_qk (.ldc2_w 211) (1253)), (37, av_q (.lcmp)), (38, av_qa (.ifCond .ne 5) 43), (41, av_q (.iconst 1)), (42, av_q (.ireturn)), (43, av_q (.aload_n 0))]
def cl_139_4 : List (Nat × av_E) := [(44, av_qf (.getfield 166) 8 24 1), (47, av_qk (.ldc2_w 213) (18379)), (50, av_q (.lcmp)), (51, av_qa (.ifCond .ne 5) 56), (54, av_q (.iconst 2)), (55, av_q (.ireturn))]
def cl_139_5 : List (Nat × av_E) := [(56, av_q (.aload_n 0)), (57, av_qf (.getfield 166) 8 24 1), (60, av_qk (.ldc2_w 215) (393)), (63, av_q (.lcmp)), (64, av_qa (.ifCond .ne 5) 69), (67, av_q (.iconst 4))]
def cl_139_6 : List (Nat × av_E) := [(68, av_q (.ireturn)), (69, av_q (.aload_n 0)), (70, av_qf (.getfield 166) 8 24 1), (73, av_qk (.ldc2_w 217) (40187)), (76, av_q (.lcmp)), (77, av_qa (.ifCond .ne 5) 82)]
def cl_139_7 : List (Nat × av_E) := [(80, av_q (.iconst 5)), (81, av_q (.ireturn)), (82, av_q (.aload_n 0)), (83, av_qf (.getfield 166) 8 24 1), (86, av_qk (.ldc2_w 219) (82516)), (89, av_q (.lcmp))]
def cl_139_8 : List (Nat × av_E) := [(90, av_qa (.ifCond .ne 6) 96), (93, av_q (.bipush 6)), (95, av_q (.ireturn)), (96, av_q (.aload_n 0)), (97, av_qf (.getfield 166) 8 24 1), (100, av_qk (.ldc2_w 221) (378004))]
def cl_139_9 : List (Nat × av_E) := [(103, av_q (.lcmp)), (104, av_qa (.ifCond .ne 6) 110), (107, av_q (.bipush 7)), (109, av_q (.ireturn)), (110, av_q (.iconst (-1))), (111, av_q (.ireturn))]
def cf_139 : Nat → Option av_E := (av_br 55 (av_br 21 (av_br 11 (av_lq cl_139_0) (av_lq cl_139_1)) (av_br 31 (av_lq cl_139_2) (av_br 43 (av_lq cl_139_3) (av_lq cl_139_4)))) (av_br 77 (av_br 67 (av_lq cl_139_5) (av_lq cl_139_6)) (av_br 89 (av_lq cl_139_7) (av_br 100 (av_lq cl_139_8) (av_lq cl_139_9)))))
set_option maxRecDepth 100000 in
set_option maxHeartbeats 4000000 in
theorem ck_139 : ∀ (pc : Nat) (x : av_E), cf_139 pc = some x → cd_139.lookup pc = some x := by
  have h : ∀ q ∈ cl_139_0 ++ (cl_139_1 ++ (cl_139_2 ++ (cl_139_3 ++ (cl_139_4 ++ (cl_139_5 ++ (cl_139_6 ++ (cl_139_7 ++ (cl_139_8 ++ (cl_139_9))))))))), cd_139.lookup q.1 = some q.2 := av_ascQ (cd := cd_139) (by decide +kernel)
  obtain ⟨h0, h⟩ := List.forall_mem_append.mp h
  obtain ⟨h1, h⟩ := List.forall_mem_append.mp h
  obtain ⟨h2, h⟩ := List.forall_mem_append.mp h
  obtain ⟨h3, h⟩ := List.forall_mem_append.mp h
  obtain ⟨h4, h⟩ := List.forall_mem_append.mp h
  obtain ⟨h5, h⟩ := List.forall_mem_append.mp h
  obtain ⟨h6, h⟩ := List.forall_mem_append.mp h
  obtain ⟨h7, h⟩ := List.forall_mem_append.mp h
  obtain ⟨h8, h⟩ := List.forall_mem_append.mp h
  have h9 := h
  exact (av_brP (av_brP (av_brP (av_lqP h0) (av_lqP h1)) (av_brP (av_lqP h2) (av_brP (av_lqP h3) (av_lqP h4)))) (av_brP (av_brP (av_lqP h5) (av_lqP h6)) (av_brP (av_lqP h7) (av_brP (av_lqP h8) (av_lqP h9)))))
def cl_140_0 : List (Nat × av_E) := [(0, av_q (.aload_n 0)), (1, av_qf (.getfield 183) 8 25 3), (4, av_qa (.ifCond .ne 11) 15), (7, av_q (.aload_n 0)), (8, av_qf (.getfield 173) 8 22 0), (11, av_q (.iconst 1))]
def cl_140_1 : List (Nat × av_E) := [(12, av_qa (.if_icmp .eq 5) 17), (15, av_q (.iconst (-1))), (16, av_q (.ireturn)), (17, av_q (.aload_n 0)), (18, av_qf (.getfield 166) 8 24 1), (21, av_qk (.ldc2_w 223) (326396))]
def cl_140_2 : List (Nat × av_E) := [(24, av_q (.lcmp)), (25, av_qa (.ifCond .ne 5) 30), (28, av_q (.iconst 0)), (29, av_q (.ireturn)), (30, av_q (.aload_n 0)), (31, av_qf (.getfield 166) 8 24 1)]
def cl_140_3 : List (Nat × av_E) := [(34, av_qk (.ldc2_w 225) (459761)), (37, av_q (.lcmp)), (38, av_qa (.ifCond .ne 5) 43), (41, av_q (.iconst 1)), (42, av_q (.ireturn)), (43, av_q (.aload_n 0))]
def cl_140_4 : List (Nat × av_E) := [(44, av_qf (.getfield 166) 8 24 1), (47, av_qk (.ldc2_w 227) (7219835)), (50, av_q (.lcmp)), (51, av_qa (.ifCond .ne 5) 56), (54, av_q (.iconst 2)), (55, av_q (.ireturn))]
def cl_140_5 : List (Nat × av_E) := [(56, av_q (.aload_n 0)), (57, av_qf (.getfield 166) 8 24 1), (60, av_qk (.ldc2_w 219) (82516)), (63, av_q (.lcmp)), (64, av_qa (.ifCond .ne 5) 69), (67, av_q (.iconst 3))]
def cl_140_6 : List (Nat × av_E) := [(68, av_q (.ireturn)), (69, av_q (.iconst (-1))), (70, av_q (.ireturn))]
def cf_140 : Nat → Option av_E := (av_br 31 (av_br 11 (av_lq cl_140_0) (av_br 21 (av_lq cl_140_1) (av_lq cl_140_2))) (av_br 55 (av_br 43 (av_lq cl_140_3) (av_lq cl_140_4)) (av_br 67 (av_lq cl_140_5) (av_lq cl_140_6))))
set_option maxRecDepth 100000 in
set_option maxHeartbeats 4000000 in
theorem ck_140 : ∀ (pc : Nat) (x : av_E), cf_140 pc = some x → cd_140.lookup pc = some x := by
  have h : ∀ q ∈ cl_140_0 ++ (cl_140_1 ++ (cl_140_2 ++ (cl_140_3 ++ (cl_140_4 ++ (cl_140_5 ++ (cl_140_6)))))), cd_140.lookup q.1 = some q.2 := av_ascQ (cd := cd_140) (by decide +kernel)
  obtain ⟨h0, h⟩ := List.forall_mem_append.mp h
  obtain ⟨h1, h⟩ := List.forall_mem_append.mp h
  obtain ⟨h2, h⟩ := List.forall_mem_append.mp h
  obtain ⟨h3, h⟩ := List.forall_mem_append.mp h
  obtain ⟨h4, h⟩ := List.forall_mem_append.mp h
  obtain ⟨h5, h⟩ := List.forall_mem_append.mp h
  have h6 := h
  exact (av_brP (av_brP (av_lqP h0) (av_brP (av_lqP h1) (av_lqP h2))) (av_brP (av_brP (av_lqP h3) (av_lqP h4)) (av_brP (av_lqP h5) (av_lqP h6))))
def cl_141_0 : List (Nat × av_E) := [(0, av_q (.iload_n 2)), (1, av_qa (.ifCond .eq 14) 15), (4, av_q (.aload_n 0)), (5, av_qc (.invokevirtual 229) 138 0 0 8), (8, av_qa (.ifCond .ge 7) 15), (11, av_q (.aload_n 0))]
def cl_141_1 : List (Nat × av_E) := [(12, av_qc (.invokevirtual 194) 131 0 0 8), (15, av_q (.aload_n 0)), (16, av_qc (.invokevirtual 229) 138 0 0 8), (19, av_qa (.ifCond .lt 33) 52), (22, av_q (.aload_n 0)), (23, av_qc (.invokevirtual 229) 138 0 0 8)]
def cl_141_2 : List (Nat × av_E) := [(26, av_q (.istore_n 3)), (27, av_q (.aload_n 0)), (28, av_qc (.invokevirtual 191) 130 0 0 8), (31, av_q (.aload_n 0)), (32, av_qf (.getfield 46) 8 12 2), (35, av_q (.iconst 5))]
def cl_141_3 : List (Nat × av_E) := [(36, av_q (.iload_n 1)), (37, av_q (.imul)), (38, av_q (.iload_n 3)), (39, av_q (.iadd)), (40, av_q (.aload_n 0)), (41, av_q (.iconst 0))]
def cl_141_4 : List (Nat × av_E) := [(42, av_q (.sipush 999)), (45, av_qc (.invokevirtual 232) 134 2 0 8), (48, av_q (.iastore)), (49, av_qa (.goto (-34)) 15), (52, av_q (.return_))]
def cf_141 : Nat → Option av_E := (av_br 23 (av_br 11 (av_lq cl_141_0) (av_lq cl_141_1)) (av_br 35 (av_lq cl_141_2) (av_br 41 (av_lq cl_141_3) (av_lq cl_141_4))))
set_option maxRecDepth 100000 in
set_option maxHeartbeats 4000000 in
theorem ck_141 : ∀ (pc : Nat) (x : av_E), cf_141 pc = some x → cd_141.lookup pc = some x := by
  have h : ∀ q ∈ cl_141_0 ++ (cl_141_1 ++ (cl_141_2 ++ (cl_141_3 ++ (cl_141_4)))), cd_141.lookup q.1 = some q.2 := av_ascQ (cd := cd_141) (by decide +kernel)
  obtain ⟨h0, h⟩ := List.forall_mem_append.mp h
  obtain ⟨h1, h⟩ := List.forall_mem_append.mp h
  obtain ⟨h2, h⟩ := List.forall_mem_append.mp h
  obtain ⟨h3, h⟩ := List.forall_mem_append.mp h
  have h4 := h
  exact (av_brP (av_brP (av_lqP h0) (av_lqP h1)) (av_brP (av_lqP h2) (av_brP (av_lqP h3) (av_lqP h4))))
def cl_142_0 : List (Nat × av_E) := [(0, av_q (.aload_n 0)), (1, av_qf (.getfield 49) 8 13 2), (4, av_q (.iconst 3)), (5, av_q (.iload_n 1)), (6, av_q (.imul)), (7, av_q (.iload_n 2))]
def cl_142_1 : List (Nat × av_E) := [(8, av_q (.iadd)), (9, av_q (.aload_n 0)), (10, av_q (.iconst 0)), (11, av_q (.iload_n 3)), (12, av_qc (.invokevirtual 232) 134 2 0 8), (15, av_q (.iastore))]
def cl_142_2 : List (Nat × av_E) := [(16, av_q (.aload_n 0)), (17, av_qf (.getfield 52) 8 14 2), (20, av_q (.iconst 3)), (21, av_q (.iload_n 1)), (22, av_q (.imul)), (23, av_q (.iload_n 2))]
def cl_142_3 : List (Nat × av_E) := [(24, av_q (.iadd)), (25, av_q (.aload_n 0)), (26, av_qf (.getfield 49) 8 13 2), (29, av_q (.iconst 3)), (30, av_q (.iload_n 1)), (31, av_q (.imul))]
def cl_142_4 : List (Nat × av_E) := [(32, av_q (.iload_n 2)), (33, av_q (.iadd)), (34, av_q (.iaload)), (35, av_q (.iastore)), (36, av_q (.aload_n 0)), (37, av_qk (.ldc2_w 236) (555))]
def cl_142_5 : List (Nat × av_E) := [(40, av_qc (.invokevirtual 187) 132 1 0 8), (43, av_qa (.ifCond .ne 4) 47), (46, av_q (.return_)), (47, av_q (.aload_n 0)), (48, av_qc (.invokevirtual 191) 130 0 0 8), (51, av_q (.aload_n 0))]
def cl_142_6 : List (Nat × av_E) := [(52, av_qf (.getfield 49) 8 13 2), (55, av_q (.iconst 3)), (56, av_q (.iload_n 1)), (57, av_q (.imul)), (58, av_q (.iload_n 2)), (59, av_q (.iadd))]
def cl_142_7 : List (Nat × av_E) := [(60, av_q (.iaload)), (61, av_q (.bipush 15)), (63, av_q (.iadd)), (64, av_q (.istore 4)), (66, av_q (.aload_n 0)), (67, av_qf (.getfield 52) 8 14 2)]
def cl_142_8 : List (Nat × av_E) := [(70, av_q (.iconst 3)), (71, av_q (.iload_n 1)), (72, av_q (.imul)), (73, av_q (.iload_n 2)), (74, av_q (.iadd)), (75, av_q (.aload_n 0))]
def cl_142_9 : List (Nat × av_E) := [(76, av_q (.aload_n 0)), (77, av_qf (.getfield 49) 8 13 2), (80, av_q (.iconst 3)), (81, av_q (.iload_n 1)), (82, av_q (.imul)), (83, av_q (.iload_n 2))]
def cl_142_10 : List (Nat × av_E) := [(84, av_q (.iadd)), (85, av_q (.iaload)), (86, av_q (.iload 4)), (88, av_q (.iload_n 3)), (89, av_qa (.if_icmp .ge 8) 97), (92, av_q (.iload 4))]
def cl_142_11 : List (Nat × av_E) := [(94, av_qa (.goto 4) 98), (97, av_q (.iload_n 3)), (98, av_qc (.invokevirtual 232) 134 2 0 8), (101, av_q (.iastore)), (102, av_q (.return_))]
def cf_142 : Nat → Option av_E := (av_br 51 (av_br 23 (av_br 7 (av_lq cl_142_0) (av_br 15 (av_lq cl_142_1) (av_lq cl_142_2))) (av_br 31 (av_lq cl_142_3) (av_br 37 (av_lq cl_142_4) (av_lq cl_142_5)))) (av_br 75 (av_br 59 (av_lq cl_142_6) (av_br 67 (av_lq cl_142_7) (av_lq cl_142_8))) (av_br 83 (av_lq cl_142_9) (av_br 92 (av_lq cl_142_10) (av_lq cl_142_11)))))
set_option maxRecDepth 100000 in
set_option maxHeartbeats 4000000 in
theorem ck_142 : ∀ (pc : Nat) (x : av_E), cf_142 pc = some x → cd_142.lookup pc = some x := by
  have h : ∀ q ∈ cl_142_0 ++ (cl_142_1 ++ (cl_142_2 ++ (cl_142_3 ++ (cl_142_4 ++ (cl_142_5 ++ (cl_142_6 ++ (cl_142_7 ++ (cl_142_8 ++ (cl_142_9 ++ (cl_142_10 ++ (cl_142_11))))))))))), cd_142.lookup q.1 = some q.2 := av_ascQ (cd := cd_142) (by decide +kernel)
  obtain ⟨h0, h⟩ := List.forall_mem_append.mp h
  obtain ⟨h1, h⟩ := List.forall_mem_append.mp h
  obtain ⟨h2, h⟩ := List.forall_mem_append.mp h
  obtain ⟨h3, h⟩ := List.forall_mem_append.mp h
  obtain ⟨h4, h⟩ := List.forall_mem_append.mp h
  obtain ⟨h5, h⟩ := List.forall_mem_append.mp h
  obtain ⟨h6, h⟩ := List.forall_mem_append.mp h
  obtain ⟨h7, h⟩ := List.forall_mem_append.mp h
  obtain ⟨h8, h⟩ := List.forall_mem_append.mp h
  obtain ⟨h9, h⟩ := List.forall_mem_append.mp h
  obtain ⟨h10, h⟩ := List.forall_mem_append.mp h
  have h11 := h
  exact (av_brP (av_brP (av_brP (av_lqP h0) (av_brP (av_lqP h1) (av_lqP h2))) (av_brP (av_lqP h3) (av_brP (av_lqP h4) (av_lqP h5)))) (av_brP (av_brP (av_lqP h6) (av_brP (av_lqP h7) (av_lqP h8))) (av_brP (av_lqP h9) (av_brP (av_lqP h10) (av_lqP h11)))))
def cl_143_0 : List (Nat × av_E) := [(0, av_q (.aload_n 0)), (1, av_qc (.invokevirtual 238) 140 0 0 8), (4, av_q (.istore_n 2)), (5, av_q (.iload_n 2)), (6, av_qa (.ifCond .ge 8) 14), (9, av_q (.aload_n 0))]
def cl_143_1 : List (Nat × av_E) := [(10, av_qc (.invokevirtual 194) 131 0 0 8), (13, av_q (.return_)), (14, av_q (.aload_n 0)), (15, av_qc (.invokevirtual 191) 130 0 0 8), (18, av_q (.aload_n 0)), (19, av_qf (.getfield 34) 8 8 2)]
def cl_143_2 : List (Nat × av_E) := [(22, av_q (.iload_n 1)), (23, av_q (.iload_n 2)), (24, av_q (.iastore)), (25, av_q (.aload_n 0)), (26, av_qk (.ldc2_w 241) (47)), (29, av_qc (.invokevirtual 243) 133 1 0 8)]
def cl_143_3 : List (Nat × av_E) := [(32, av_q (.aload_n 0)), (33, av_q (.iload_n 1)), (34, av_q (.iconst 0)), (35, av_q (.sipush 1999)), (38, av_qc (.invokevirtual 247) 142 3 0 8), (41, av_q (.iload_n 2))]
def cl_143_4 : List (Nat × av_E) := [(42, av_q (.iconst 1)), (43, av_qa (.if_icmp .le 4) 47), (46, av_q (.return_)), (47, av_q (.aload_n 0)), (48, av_qk (.ldc2_w 251) (664272)), (51, av_qc (.invokevirtual 243) 133 1 0 8)]
def cl_143_5 : List (Nat × av_E) := [(54, av_q (.aload_n 0)), (55, av_q (.iload_n 1)), (56, av_q (.iconst 1)), (57, av_q (.sipush 999)), (60, av_qc (.invokevirtual 247) 142 3 0 8), (63, av_q (.aload_n 0))]
def cl_143_6 : List (Nat × av_E) := [(64, av_qk (.ldc2_w 253) (357970)), (67, av_qc (.invokevirtual 187) 132 1 0 8), (70, av_qa (.ifCond .eq 16) 86), (73, av_q (.aload_n 0)), (74, av_qc (.invokevirtual 191) 130 0 0 8), (77, av_q (.aload_n 0))]
def cl_143_7 : List (Nat × av_E) := [(78, av_q (.iload_n 1)), (79, av_q (.iconst 2)), (80, av_q (.sipush 999)), (83, av_qc (.invokevirtual 247) 142 3 0 8), (86, av_q (.aload_n 0)), (87, av_qk (.ldc2_w 255) (247664))]
def cl_143_8 : List (Nat × av_E) := [(90, av_qc (.invokevirtual 187) 132 1 0 8), (93, av_qa (.ifCond .eq 14) 107), (96, av_q (.aload_n 0)), (97, av_qc (.invokevirtual 191) 130 0 0 8), (100, av_q (.aload_n 0)), (101, av_qf (.getfield 43) 8 11 2)]
def cl_143_9 : List (Nat × av_E) := [(104, av_q (.iload_n 1)), (105, av_q (.iconst 1)), (106, av_q (.iastore)), (107, av_q (.return_))]
def cf_143 : Nat → Option av_E := (av_br 51 (av_br 19 (av_br 9 (av_lq cl_143_0) (av_lq cl_143_1)) (av_br 29 (av_lq cl_143_2) (av_br 41 (av_lq cl_143_3) (av_lq cl_143_4)))) (av_br 77 (av_br 63 (av_lq cl_143_5) (av_lq cl_143_6)) (av_br 87 (av_lq cl_143_7) (av_br 101 (av_lq cl_143_8) (av_lq cl_143_9)))))
set_option maxRecDepth 100000 in
set_option maxHeartbeats 4000000 in
theorem ck_143 : ∀ (pc : Nat) (x : av_E), cf_143 pc = some x → cd_143.lookup pc = some x := by
  have h : ∀ q ∈ cl_143_0 ++ (cl_143_1 ++ (cl_143_2 ++ (cl_143_3 ++ (cl_143_4 ++ (cl_143_5 ++ (cl_143_6 ++ (cl_143_7 ++ (cl_143_8 ++ (cl_143_9))))))))), cd_143.lookup q.1 = some q.2 := av_ascQ (cd := cd_143) (by decide +kernel)
  obtain ⟨h0, h⟩ := List.forall_mem_append.mp h
  obtain ⟨h1, h⟩ := List.forall_mem_append.mp h
  obtain ⟨h2, h⟩ := List.forall_mem_append.mp h
  obtain ⟨h3, h⟩ := List.forall_mem_append.mp h
  obtain ⟨h4, h⟩ := List.forall_mem_append.mp h
  obtain ⟨h5, h⟩ := List.forall_mem_append.mp h
  obtain ⟨h6, h⟩ := List.forall_mem_append.mp h
  obtain ⟨h7, h⟩ := List.forall_mem_append.mp h
  obtain ⟨h8, h⟩ := List.forall_mem_append.mp h
  have h9 := h
  exact (av_brP (av_brP (av_brP (av_lqP h0) (av_lqP h1)) (av_brP (av_lqP h2) (av_brP (av_lqP h3) (av_lqP h4)))) (av_brP (av_brP (av_lqP h5) (av_lqP h6)) (av_brP (av_lqP h7) (av_brP (av_lqP h8) (av_lqP h9)))))
def cl_144_0 : List (Nat × av_E) := [(0, av_q (.iload_n 1)), (1, av_qa (.ifCond .eq 8) 9), (4, av_q (.iload_n 1)), (5, av_q (.iconst 3)), (6, av_qa (.if_icmp .ne 7) 13), (9, av_q (.iconst 1))]
def cl_144_1 : List (Nat × av_E) := [(10, av_qa (.goto 4) 14), (13, av_q (.iconst 0)), (14, av_qa (.ireturn) 1)]
def cf_144 : Nat → Option av_E := (av_br 9 (av_lq cl_144_0) (av_lq cl_144_1))
set_option maxRecDepth 100000 in
set_option maxHeartbeats 4000000 in
theorem ck_144 : ∀ (pc : Nat) (x : av_E), cf_144 pc = some x → cd_144.lookup pc = some x := by
  have h : ∀ q ∈ cl_144_0 ++ (cl_144_1), cd_144.lookup q.1 = some q.2 := av_ascQ (cd := cd_144) (by decide +kernel)
  obtain ⟨h0, h⟩ := List.forall_mem_append.mp h
  have h1 := h
  exact (av_brP (av_lqP h0) (av_lqP h1))
def cl_145_0 : List (Nat × av_E) := [(0, av_q (.aload_n 0)), (1, av_qf (.getfield 183) 8 25 3), (4, av_qa (.ifCond .eq 5) 9), (7, av_q (.iconst (-1))), (8, av_q (.ireturn)), (9, av_q (.aload_n 0))]
def cl_145_1 : List (Nat × av_E) := [(10, av_qf (.getfield 173) 8 22 0), (13, av_q (.iconst 2)), (14, av_qa (.if_icmp .ne 18) 32), (17, av_q (.aload_n 0)), (18, av_qf (.getfield 170) 8 23 0), (21, av_q (.iload_n 2))]
def cl_145_2 : List (Nat × av_E) := [(22, av_qa (.if_icmp .ge 10) 32), (25, av_q (.aload_n 0)), (26, av_qf (.getfield 170) 8 23 0), (29, av_qa (.goto 4) 33), (32, av_q (.iconst (-1))), (33, av_q (.istore 5))]
def cl_145_3 : List (Nat × av_E) := [(35, av_q (.bipush 12)), (37, av_q (.iload_n 1)), (38, av_q (.imul)), (39, av_q (.iload 5)), (41, av_q (.iadd)), (42, av_q (.istore 6))]
def cl_145_4 : List (Nat × av_E) := [(44, av_q (.iload 5)), (46, av_qa (.ifCond .lt 7) 53), (49, av_q (.iconst 1)), (50, av_qa (.goto 4) 54), (53, av_q (.iconst 0)), (54, av_q (.istore 7))]
def cl_145_5 : List (Nat × av_E) := [(56, av_q (.iload 7)), (58, av_qa (.ifCond .eq 52) 110), (61, av_q (.iload_n 3)), (62, av_q (.iconst 2)), (63, av_qa (.if_icmp .eq 14) 77), (66, av_q (.iload_n 3))]
def cl_145_6 : List (Nat × av_E) := [(67, av_q (.iconst 4)), (68, av_qa (.if_icmp .eq 9) 77), (71, av_q (.iload_n 3)), (72, av_q (.bipush 6)), (74, av_qa (.if_icmp .ne 36) 110), (77, av_q (.aload_n 0))]
def cl_145_7 : List (Nat × av_E) := [(78, av_q (.aload_n 0)), (79, av_qf (.getfield 22) 8 4 2), (82, av_q (.iload 6)), (84, av_q (.iaload)), (85, av_qc (.invokevirtual 257) 144 1 0 8), (88, av_qa (.ifCond .eq 19) 107)]
def cl_145_8 : List (Nat × av_E) := [(91, av_q (.aload_n 0)), (92, av_qf (.getfield 28) 8 6 2), (95, av_q (.iload 6)), (97, av_q (.iaload)), (98, av_q (.iload 4)), (100, av_qa (.if_icmp .ne 7) 107)]
def cl_145_9 : List (Nat × av_E) := [(103, av_q (.iconst 1)), (104, av_qa (.goto 4) 108), (107, av_q (.iconst 0)), (108, av_q (.istore 7)), (110, av_q (.iload 7)), (112, av_qa (.ifCond .eq 52) 164)]
def cl_145_10 : List (Nat × av_E) := [(115, av_q (.iload_n 3)), (116, av_q (.iconst 5)), (117, av_qa (.if_icmp .ne 47) 164), (120, av_q (.aload_n 0)), (121, av_q (.aload_n 0)), (122, av_qf (.getfield 22) 8 4 2)]
def cl_145_11 : List (Nat × av_E) := [(125, av_q (.iload 6)), (127, av_q (.iaload)), (128, av_qc (.invokevirtual 257) 144 1 0 8), (131, av_qa (.ifCond .ne 14) 145), (134, av_q (.aload_n 0)), (135, av_qf (.getfield 22) 8 4 2)]
def cl_145_12 : List (Nat × av_E) := [(138, av_q (.iload 6)), (140, av_q (.iaload)), (141, av_q (.iconst 2)), (142, av_qa (.if_icmp .ne 19) 161), (145, av_q (.aload_n 0)), (146, av_qf (.getfield 25) 8 5 2)]
def cl_145_13 : List (Nat × av_E) := [(149, av_q (.iload 6)), (151, av_q (.iaload)), (152, av_q (.iload 4)), (154, av_qa (.if_icmp .ne 7) 161), (157, av_q (.iconst 1)), (158, av_qa (.goto 4) 162)]
def cl_145_14 : List (Nat × av_E) := [(161, av_q (.iconst 0)), (162, av_q (.istore 7)), (164, av_q (.iload 7)), (166, av_qa (.ifCond .eq 42) 208), (169, av_q (.iload_n 3)), (170, av_q (.bipush 7))]
def cl_145_15 : List (Nat × av_E) := [(172, av_qa (.if_icmp .ne 36) 208), (175, av_q (.aload_n 0)), (176, av_q (.aload_n 0)), (177, av_qf (.getfield 22) 8 4 2), (180, av_q (.iload 6)), (182, av_q (.iaload))]
def cl_145_16 : List (Nat × av_E) := [(183, av_qc (.invokevirtual 257) 144 1 0 8), (186, av_qa (.ifCond .eq 19) 205), (189, av_q (.aload_n 0)), (190, av_qf (.getfield 25) 8 5 2), (193, av_q (.iload 6)), (195, av_q (.iaload))]
def cl_145_17 : List (Nat × av_E) := [(196, av_q (.iload 4)), (198, av_qa (.if_icmp .ne 7) 205), (201, av_q (.iconst 1)), (202, av_qa (.goto 4) 206), (205, av_q (.iconst 0)), (206, av_q (.istore 7))]
def cl_145_18 : List (Nat × av_E) := [(208, av_q (.iload 7)), (210, av_qa (.ifCond .ne 10) 220), (213, av_q (.aload_n 0)), (214, av_qc (.invokevirtual 194) 131 0 0 8), (217, av_qa (.goto 7) 224), (220, av_q (.aload_n 0))]
def cl_145_19 : List (Nat × av_E) := [(221, av_qc (.invokevirtual 191) 130 0 0 8), (224, av_q (.iload 5)), (226, av_q (.ireturn))]
def cf_145 : Nat → Option av_E := (av_br 112 (av_br 54 (av_br 21 (av_br 9 (av_lq cl_145_0) (av_lq cl_145_1)) (av_br 33 (av_lq cl_145_2) (av_br 42 (av_lq cl_145_3) (av_lq cl_145_4)))) (av_br 77 (av_br 66 (av_lq cl_145_5) (av_lq cl_145_6)) (av_br 88 (av_lq cl_145_7) (av_br 100 (av_lq cl_145_8) (av_lq cl_145_9))))) (av_br 170 (av_br 135 (av_br 122 (av_lq cl_145_10) (av_lq cl_145_11)) (av_br 146 (av_lq cl_145_12) (av_br 158 (av_lq cl_145_13) (av_lq cl_145_14)))) (av_br 195 (av_br 182 (av_lq cl_145_15) (av_lq cl_145_16)) (av_br 206 (av_lq cl_145_17) (av_br 220 (av_lq cl_145_18) (av_lq cl_145_19))))))
set_option maxRecDepth 100000 in
set_option maxHeartbeats 4000000 in
theorem ck_145 : ∀ (pc : Nat) (x : av_E), cf_145 pc = some x → cd_145.lookup pc = some x := by
  have h : ∀ q ∈ cl_145_0 ++ (cl_145_1 ++ (cl_145_2 ++ (cl_145_3 ++ (cl_145_4 ++ (cl_145_5 ++ (cl_145_6 ++ (cl_145_7 ++ (cl_145_8 ++ (cl_145_9 ++ (cl_145_10 ++ (cl_145_11 ++ (cl_145_12 ++ (cl_145_13 ++ (cl_145_14 ++ (cl_145_15 ++ (cl_145_16 ++ (cl_145_17 ++ (cl_145_18 ++ (cl_145_19))))))))))))))))))), cd_145.lookup q.1 = some q.2 := av_ascQ (cd := cd_145) (by decide +kernel)
  obtain ⟨h0, h⟩ := List.forall_mem_append.mp h
  obtain ⟨h1, h⟩ := List.forall_mem_append.mp h
  obtain ⟨h2, h⟩ := List.forall_mem_append.mp h
  obtain ⟨h3, h⟩ := List.forall_mem_append.mp h
  obtain ⟨h4, h⟩ := List.forall_mem_append.mp h
  obtain ⟨h5, h⟩ := List.forall_mem_append.mp h
  obtain ⟨h6, h⟩ := List.forall_mem_append.mp h
  obtain ⟨h7, h⟩ := List.forall_mem_append.mp h
  obtain ⟨h8, h⟩ := List.forall_mem_append.mp h
  obtain ⟨h9, h⟩ := List.forall_mem_append.mp h
  obtain ⟨h10, h⟩ := List.forall_mem_append.mp h
  obtain ⟨h11, h⟩ := List.forall_mem_append.mp h
  obtain ⟨h12, h⟩ := List.forall_mem_append.mp h
  obtain ⟨h13, h⟩ := List.forall_mem_append.mp h
  obtain ⟨h14, h⟩ := List.forall_mem_append.mp h
  obtain ⟨h15, h⟩ := List.forall_mem_append.mp h
  obtain ⟨h16, h⟩ := List.forall_mem_append.mp h
  obtain ⟨h17, h⟩ := List.forall_mem_append.mp h
  obtain ⟨h18, h⟩ := List.forall_mem_append.mp h
  have h19 := h
  exact (av_brP (av_brP (av_brP (av_brP (av_lqP h0) (av_lqP h1)) (av_brP (av_lqP h2) (av_brP (av_lqP h3) (av_lqP h4)))) (av_brP (av_brP (av_lqP h5) (av_lqP h6)) (av_brP (av_lqP h7) (av_brP (av_lqP h8) (av_lqP h9))))) (av_brP (av_brP (av_brP (av_lqP h10) (av_lqP h11)) (av_brP (av_lqP h12) (av_brP (av_lqP h13) (av_lqP h14)))) (av_brP (av_brP (av_lqP h15) (av_lqP h16)) (av_brP (av_lqP h17) (av_brP (av_lqP h18) (av_lqP h19))))))
def cl_146_0 : List (Nat × av_E) := [(0, av_q (.bipush 12)), (2, av_q (.iload_n 1)), (3, av_q (.imul)), (4, av_q (.iload_n 2)), (5, av_q (.iadd)), (6, av_q (.istore_n 3))]
def cl_146_1 : List (Nat × av_E) := [(7, av_q (.aload_n 0)), (8, av_qc (.invokevirtual 261) 139 0 0 8), (11, av_q (.istore 4)), (13, av_q (.iload 4)), (15, av_qa (.ifCond .lt 9) 24), (18, av_q (.iload_n 2))]
def cl_146_2 : List (Nat × av_E) := [(19, av_q (.bipush 12)), (21, av_qa (.if_icmp .ne 8) 29), (24, av_q (.aload_n 0)), (25, av_qc (.invokevirtual 194) 131 0 0 8), (28, av_q (.return_)), (29, av_q (.aload_n 0))]
def cl_146_3 : List (Nat × av_E) := [(30, av_qc (.invokevirtual 191) 130 0 0 8), (33, av_q (.aload_n 0)), (34, av_qf (.getfield 22) 8 4 2), (37, av_q (.iload_n 3)), (38, av_q (.iload 4)), (40, av_q (.iastore))]
def cl_146_4 : List (Nat × av_E) := [(41, av_q (.aload_n 0)), (42, av_qf (.getfield 28) 8 6 2), (45, av_q (.iload_n 3)), (46, av_q (.iconst (-1))), (47, av_q (.iastore)), (48, av_q (.aload_n 0))]
def cl_146_5 : List (Nat × av_E) := [(49, av_qf (.getfield 31) 8 7 2), (52, av_q (.iload_n 3)), (53, av_q (.iconst (-1))), (54, av_q (.iastore)), (55, av_q (.aload_n 0)), (56, av_qf (.getfield 37) 8 9 2)]
def cl_146_6 : List (Nat × av_E) := [(59, av_q (.iload_n 3)), (60, av_q (.iconst (-1))), (61, av_q (.iastore)), (62, av_q (.aload_n 0)), (63, av_qf (.getfield 40) 8 10 2), (66, av_q (.iload_n 3))]
def cl_146_7 : List (Nat × av_E) := [(67, av_q (.iconst (-1))), (68, av_q (.iastore)), (69, av_q (.aload_n 0)), (70, av_qf (.getfield 43) 8 11 2), (73, av_q (.iload_n 3)), (74, av_q (.iconst 0))]
def cl_146_8 : List (Nat × av_E) := [(75, av_q (.iastore)), (76, av_q (.iconst 0)), (77, av_q (.istore 5)), (79, av_q (.iload 5)), (81, av_q (.iconst 5)), (82, av_qa (.if_icmp .ge 21) 103)]
def cl_146_9 : List (Nat × av_E) := [(85, av_q (.aload_n 0)), (86, av_qf (.getfield 46) 8 12 2), (89, av_q (.iconst 5)), (90, av_q (.iload_n 3)), (91, av_q (.imul)), (92, av_q (.iload 5))]
def cl_146_10 : List (Nat × av_E) := [(94, av_q (.iadd)), (95, av_q (.iconst (-1))), (96, av_q (.iastore)), (97, av_q (.iinc 5 1)), (100, av_qa (.goto (-21)) 79), (103, av_q (.iconst 0))]
def cl_146_11 : List (Nat × av_E) := [(104, av_q (.istore 5)), (106, av_q (.iload 5)), (108, av_q (.iconst 3)), (109, av_qa (.if_icmp .ge 33) 142), (112, av_q (.aload_n 0)), (113, av_qf (.getfield 49) 8 13 2)]
def cl_146_12 : List (Nat × av_E) := [(116, av_q (.iconst 3)), (117, av_q (.iload_n 3)), (118, av_q (.imul)), (119, av_q (.iload 5)), (121, av_q (.iadd)), (122, av_q (.iconst 0))]
def cl_146_13 : List (Nat × av_E) := [(123, av_q (.iastore)), (124, av_q (.aload_n 0)), (125, av_qf (.getfield 52) 8 14 2), (128, av_q (.iconst 3)), (129, av_q (.iload_n 3)), (130, av_q (.imul))]
def cl_146_14 : List (Nat × av_E) := [(131, av_q (.iload 5)), (133, av_q (.iadd)), (134, av_q (.iconst 0)), (135, av_q (.iastore)), (136, av_q (.iinc 5 1)), (139, av_qa (.goto (-33)) 106)]
def cl_146_15 : List (Nat × av_E) := [(142, av_q (.aload_n 0)), (143, av_qf (.getfield 25) 8 5 2), (146, av_q (.iload_n 3)), (147, av_q (.aload_n 0)), (148, av_q (.iconst (-1))), (149, av_qc (.invokevirtual 264) 137 1 0 8)]
def cl_146_16 : List (Nat × av_E) := [(152, av_q (.iastore)), (153, av_q (.iload 4)), (155, av_q (.iconst 2)), (156, av_qa (.if_icmp .ge 22) 178), (159, av_q (.aload_n 0)), (160, av_qf (.getfield 28) 8 6 2)]
def cl_146_17 : List (Nat × av_E) := [(163, av_q (.iload_n 3)), (164, av_q (.aload_n 0)), (165, av_q (.aload_n 0)), (166, av_qf (.getfield 25) 8 5 2), (169, av_q (.iload_n 3)), (170, av_q (.iaload))]
def cl_146_18 : List (Nat × av_E) := [(171, av_qc (.invokevirtual 264) 137 1 0 8), (174, av_q (.iastore)), (175, av_qa (.goto 23) 198), (178, av_q (.aload_n 0)), (179, av_qf (.getfield 31) 8 7 2), (182, av_q (.iload_n 3))]
def cl_146_19 : List (Nat × av_E) := [(183, av_q (.aload_n 0)), (184, av_q (.iload_n 1)), (185, av_q (.iload_n 2)), (186, av_q (.iload 4)), (188, av_q (.aload_n 0)), (189, av_qf (.getfield 25) 8 5 2)]
def cl_146_20 : List (Nat × av_E) := [(192, av_q (.iload_n 3)), (193, av_q (.iaload)), (194, av_qc (.invokevirtual 268) 145 4 0 8), (197, av_q (.iastore)), (198, av_q (.iload 4)), (200, av_qa (.ifCond .ne 65) 265)]
def cl_146_21 : List (Nat × av_E) := [(203, av_q (.aload_n 0)), (204, av_q (.iload_n 3)), (205, av_q (.iconst 0)), (206, av_qc (.invokevirtual 272) 141 2 0 8), (209, av_q (.aload_n 0)), (210, av_qk (.ldc2_w 276) (168727))]
def cl_146_22 : List (Nat × av_E) := [(213, av_qc (.invokevirtual 187) 132 1 0 8), (216, av_qa (.ifCond .eq 21) 237), (219, av_q (.aload_n 0)), (220, av_qc (.invokevirtual 191) 130 0 0 8), (223, av_q (.aload_n 0)), (224, av_qf (.getfield 37) 8 9 2)]
def cl_146_23 : List (Nat × av_E) := [(227, av_q (.iload_n 3)), (228, av_q (.aload_n 0)), (229, av_q (.iconst 0)), (230, av_q (.sipush 1999)), (233, av_qc (.invokevirtual 232) 134 2 0 8), (236, av_q (.iastore))]
def cl_146_24 : List (Nat × av_E) := [(237, av_q (.aload_n 0)), (238, av_qk (.ldc2_w 278) (3913421)), (241, av_qc (.invokevirtual 187) 132 1 0 8), (244, av_qa (.ifCond .eq 21) 265), (247, av_q (.aload_n 0)), (248, av_qc (.invokevirtual 191) 130 0 0 8)]
def cl_146_25 : List (Nat × av_E) := [(251, av_q (.aload_n 0)), (252, av_qf (.getfield 40) 8 10 2), (255, av_q (.iload_n 3)), (256, av_q (.aload_n 0)), (257, av_q (.iconst 0)), (258, av_q (.iload_n 1))]
def cl_146_26 : List (Nat × av_E) := [(259, av_q (.iconst 1)), (260, av_q (.isub)), (261, av_qc (.invokevirtual 232) 134 2 0 8), (264, av_q (.iastore)), (265, av_q (.iload 4)), (267, av_q (.iconst 2))]
def cl_146_27 : List (Nat × av_E) := [(268, av_qa (.if_icmp .ne 52) 320), (271, av_q (.aload_n 0)), (272, av_qk (.ldc2_w 280) (2045)), (275, av_qc (.invokevirtual 187) 132 1 0 8), (278, av_qa (.ifCond .eq 42) 320), (281, av_q (.aload_n 0))]
def cl_146_28 : List (Nat × av_E) := [(282, av_qc (.invokevirtual 191) 130 0 0 8), (285, av_q (.aload_n 0)), (286, av_qf (.getfield 22) 8 4 2), (289, av_q (.iload_n 3)), (290, av_q (.iconst 3)), (291, av_q (.iastore))]
def cl_146_29 : List (Nat × av_E) := [(292, av_q (.aload_n 0)), (293, av_qf (.getfield 28) 8 6 2), (296, av_q (.iload_n 3)), (297, av_q (.aload_n 0)), (298, av_qf (.getfield 25) 8 5 2), (301, av_q (.bipush 12))]
def cl_146_30 : List (Nat × av_E) := [(303, av_q (.iload_n 1)), (304, av_q (.imul)), (305, av_q (.aload_n 0)), (306, av_qf (.getfield 31) 8 7 2), (309, av_q (.iload_n 3)), (310, av_q (.iaload))]
def cl_146_31 : List (Nat × av_E) := [(311, av_q (.iadd)), (312, av_q (.iaload)), (313, av_q (.iastore)), (314, av_q (.aload_n 0)), (315, av_q (.iload_n 3)), (316, av_q (.iconst 1))]
def cl_146_32 : List (Nat × av_E) := [(317, av_qc (.invokevirtual 272) 141 2 0 8), (320, av_q (.aload_n 0)), (321, av_q (.iload_n 3)), (322, av_qc (.invokevirtual 282) 143 1 0 8), (325, av_q (.aload_n 0)), (326, av_qc (.invokevirtual 286) 135 0 0 8)]
def cl_146_33 : List (Nat × av_E) := [(329, av_q (.return_))]
def cf_146 : Nat → Option av_E := (av_br 160 (av_br 74 (av_br 40 (av_br 18 (av_br 6 (av_lq cl_146_0) (av_lq cl_146_1)) (av_br 29 (av_lq cl_146_2) (av_lq cl_146_3))) (av_br 56 (av_br 48 (av_lq cl_146_4) (av_lq cl_146_5)) (av_br 66 (av_lq cl_146_6) (av_lq cl_146_7)))) (av_br 113 (av_br 92 (av_br 82 (av_lq cl_146_8) (av_lq cl_146_9)) (av_br 103 (av_lq cl_146_10) (av_lq cl_146_11))) (av_br 130 (av_br 122 (av_lq cl_146_12) (av_lq cl_146_13)) (av_br 139 (av_lq cl_146_14) (av_br 149 (av_lq cl_146_15) (av_lq cl_146_16)))))) (av_br 248 (av_br 200 (av_br 182 (av_br 170 (av_lq cl_146_17) (av_lq cl_146_18)) (av_br 189 (av_lq cl_146_19) (av_lq cl_146_20))) (av_br 224 (av_br 210 (av_lq cl_146_21) (av_lq cl_146_22)) (av_br 236 (av_lq cl_146_23) (av_lq cl_146_24)))) (av_br 291 (av_br 267 (av_br 258 (av_lq cl_146_25) (av_lq cl_146_26)) (av_br 281 (av_lq cl_146_27) (av_lq cl_146_28))) (av_br 310 (av_br 301 (av_lq cl_146_29) (av_lq cl_146_30)) (av_br 316 (av_lq cl_146_31) (av_br 326 (av_lq cl_146_32) (av_lq cl_146_33)))))))
set_option maxRecDepth 100000 in
set_option maxHeartbeats 4000000 in
theorem ck_146 : ∀ (pc : Nat) (x : av_E), cf_146 pc = some x → cd_146.lookup pc = some x := by
  have h : ∀ q ∈ cl_146_0 ++ (cl_146_1 ++ (cl_146_2 ++ (cl_146_3 ++ (cl_146_4 ++ (cl_146_5 ++ (cl_146_6 ++ (cl_146_7 ++ (cl_146_8 ++ (cl_146_9 ++ (cl_146_10 ++ (cl_146_11 ++ (cl_146_12 ++ (cl_146_13 ++ (cl_146_14 ++ (cl_146_15 ++ (cl_146_16 ++ (cl_146_17 ++ (cl_146_18 ++ (cl_146_19 ++ (cl_146_20 ++ (cl_146_21 ++ (cl_146_22 ++ (cl_146_23 ++ (cl_146_24 ++ (cl_146_25 ++ (cl_146_26 ++ (cl_146_27 ++ (cl_146_28 ++ (cl_146_29 ++ (cl_146_30 ++ (cl_146_31 ++ (cl_146_32 ++ (cl_146_33))))))))))))))))))))))))))))))))), cd_146.lookup q.1 = some q.2 := av_ascQ (cd := cd_146) (by decide +kernel)
  obtain ⟨h0, h⟩ := List.forall_mem_append.mp h
  obtain ⟨h1, h⟩ := List.forall_mem_append.mp h
  obtain ⟨h2, h⟩ := List.forall_mem_append.mp h
  obtain ⟨h3, h⟩ := List.forall_mem_append.mp h
  obtain ⟨h4, h⟩ := List.forall_mem_append.mp h
  obtain ⟨h5, h⟩ := List.forall_mem_append.mp h
  obtain ⟨h6, h⟩ := List.forall_mem_append.mp h
  obtain ⟨h7, h⟩ := List.forall_mem_append.mp h
  obtain ⟨h8, h⟩ := List.forall_mem_append.mp h
  obtain ⟨h9, h⟩ := List.forall_mem_append.mp h
  obtain ⟨h10, h⟩ := List.forall_mem_append.mp h
  obtain ⟨h11, h⟩ := List.forall_mem_append.mp h
  obtain ⟨h12, h⟩ := List.forall_mem_append.mp h
  obtain ⟨h13, h⟩ := List.forall_mem_append.mp h
  obtain ⟨h14, h⟩ := List.forall_mem_append.mp h
  obtain ⟨h15, h⟩ := List.forall_mem_append.mp h
  obtain ⟨h16, h⟩ := List.forall_mem_append.mp h
  obtain ⟨h17, h⟩ := List.forall_mem_append.mp h
  obtain ⟨h18, h⟩ := List.forall_mem_append.mp h
  obtain ⟨h19, h⟩ := List.forall_mem_append.mp h
  obtain ⟨h20, h⟩ := List.forall_mem_append.mp h
  obtain ⟨h21, h⟩ := List.forall_mem_append.mp h
  obtain ⟨h22, h⟩ := List.forall_mem_append.mp h
  obtain ⟨h23, h⟩ := List.forall_mem_append.mp h
  obtain ⟨h24, h⟩ := List.forall_mem_append.mp h
  obtain ⟨h25, h⟩ := List.forall_mem_append.mp h
  obtain ⟨h26, h⟩ := List.forall_mem_append.mp h
  obtain ⟨h27, h⟩ := List.forall_mem_append.mp h
  obtain ⟨h28, h⟩ := List.forall_mem_append.mp h
  obtain ⟨h29, h⟩ := List.forall_mem_append.mp h
  obtain ⟨h30, h⟩ := List.forall_mem_append.mp h
  obtain ⟨h31, h⟩ := List.forall_mem_append.mp h
  obtain ⟨h32, h⟩ := List.forall_mem_append.mp h
  have h33 := h
  exact (av_brP (av_brP (av_brP (av_brP (av_brP (av_lqP h0) (av_lqP h1)) (av_brP (av_lqP h2) (av_lqP h3))) (av_brP (av_brP (av_lqP h4) (av_lqP h5)) (av_brP (av_lqP h6) (av_lqP h7)))) (av_brP (av_brP (av_brP (av_lqP h8) (av_lqP h9)) (av_brP (av_lqP h10) (av_lqP h11))) (av_brP (av_brP (av_lqP h12) (av_lqP h13)) (av_brP (av_lqP h14) (av_brP (av_lqP h15) (av_lqP h16)))))) (av_brP (av_brP (av_brP (av_brP (av_lqP h17) (av_lqP h18)) (av_brP (av_lqP h19) (av_lqP h20))) (av_brP (av_brP (av_lqP h21) (av_lqP h22)) (av_brP (av_lqP h23) (av_lqP h24)))) (av_brP (av_brP (av_brP (av_lqP h25) (av_lqP h26)) (av_brP (av_lqP h27) (av_lqP h28))) (av_brP (av_brP (av_lqP h29) (av_lqP h30)) (av_brP (av_lqP h31) (av_brP (av_lqP h32) (av_lqP h33)))))))
def cl_147_0 : List (Nat × av_E) := [(0, av_q (.iload_n 2)), (1, av_q (.istore_n 3)), (2, av_q (.aload_n 0)), (3, av_qf (.getfield 173) 8 22 0), (6, av_qa (.ifCond .ne 7) 13), (9, av_q (.aload_n 0))]
def cl_147_1 : List (Nat × av_E) := [(10, av_qc (.invokevirtual 194) 131 0 0 8), (13, av_q (.aload_n 0)), (14, av_qf (.getfield 173) 8 22 0), (17, av_qa (.ifCond .eq 22) 39), (20, av_q (.aload_n 0)), (21, av_qf (.getfield 183) 8 25 3)]
def cl_147_2 : List (Nat × av_E) := [(24, av_qa (.ifCond .ne 15) 39), (27, av_q (.aload_n 0)), (28, av_q (.iload_n 1)), (29, av_q (.iload_n 3)), (30, av_qc (.invokevirtual 289) 146 2 0 8), (33, av_q (.iinc 3 1))]
def cl_147_3 : List (Nat × av_E) := [(36, av_qa (.goto (-23)) 13), (39, av_q (.aload_n 0)), (40, av_qf (.getfield 183) 8 25 3), (43, av_qa (.ifCond .eq 7) 50), (46, av_q (.iconst (-1))), (47, av_qa (.goto 4) 51)]
def cl_147_4 : List (Nat × av_E) := [(50, av_q (.iload_n 3)), (51, av_q (.ireturn))]
def cf_147 : Nat → Option av_E := (av_br 21 (av_br 9 (av_lq cl_147_0) (av_lq cl_147_1)) (av_br 33 (av_lq cl_147_2) (av_br 47 (av_lq cl_147_3) (av_lq cl_147_4))))
set_option maxRecDepth 100000 in
set_option maxHeartbeats 4000000 in
theorem ck_147 : ∀ (pc : Nat) (x : av_E), cf_147 pc = some x → cd_147.lookup pc = some x := by
  have h : ∀ q ∈ cl_147_0 ++ (cl_147_1 ++ (cl_147_2 ++ (cl_147_3 ++ (cl_147_4)))), cd_147.lookup q.1 = some q.2 := av_ascQ (cd := cd_147) (by decide +kernel)
  obtain ⟨h0, h⟩ := List.forall_mem_append.mp h
  obtain ⟨h1, h⟩ := List.forall_mem_append.mp h
  obtain ⟨h2, h⟩ := List.forall_mem_append.mp h
  obtain ⟨h3, h⟩ := List.forall_mem_append.mp h
  have h4 := h
  exact (av_brP (av_brP (av_lqP h0) (av_lqP h1)) (av_brP (av_lqP h2) (av_brP (av_lqP h3) (av_lqP h4))))
def cl_148_0 : List (Nat × av_E) := [(0, av_q (.iload_n 1)), (1, av_qa (.ifCond .lt 11) 12), (4, av_q (.iload_n 1)), (5, av_q (.aload_n 0)), (6, av_qf (.getfield 148) 8 17 0), (9, av_qa (.if_icmp .le 6) 15)]
def cl_148_1 : List (Nat × av_E) := [(12, av_q (.bipush (-2))), (14, av_q (.ireturn)), (15, av_q (.aload_n 0)), (16, av_qf (.getfield 7) 8 0 2), (19, av_q (.iconst 0)), (20, av_q (.iaload))]
def cl_148_2 : List (Nat × av_E) := [(21, av_q (.bipush 16)), (23, av_qa (.if_icmp .ne 6) 29), (26, av_q (.bipush (-3))), (28, av_q (.ireturn)), (29, av_q (.aload_n 0)), (30, av_q (.iload_n 1))]
def cl_148_3 : List (Nat × av_E) := [(31, av_qc (.invokevirtual 293) 136 1 0 8), (34, av_q (.aload_n 0)), (35, av_q (.aload_n 0)), (36, av_qf (.getfield 7) 8 0 2), (39, av_q (.iconst 0)), (40, av_q (.iaload))]
def cl_148_4 : List (Nat × av_E) := [(41, av_q (.iconst 0)), (42, av_qc (.invokevirtual 296) 147 2 0 8), (45, av_q (.istore_n 2)), (46, av_q (.iload_n 2)), (47, av_qa (.ifCond .ge 5) 52), (50, av_q (.iconst (-1)))]
def cl_148_5 : List (Nat × av_E) := [(51, av_q (.ireturn)), (52, av_q (.aload_n 0)), (53, av_qf (.getfield 19) 8 3 2), (56, av_q (.aload_n 0)), (57, av_qf (.getfield 7) 8 0 2), (60, av_q (.iconst 0))]
def cl_148_6 : List (Nat × av_E) := [(61, av_q (.iaload)), (62, av_q (.iload_n 2)), (63, av_q (.iastore)), (64, av_q (.aload_n 0)), (65, av_qf (.getfield 7) 8 0 2), (68, av_q (.iconst 0))]
def cl_148_7 : List (Nat × av_E) := [(69, av_q (.dup2)), (70, av_q (.iaload)), (71, av_q (.iconst 1)), (72, av_q (.iadd)), (73, av_q (.iastore)), (74, av_q (.aload_n 0))]
def cl_148_8 : List (Nat × av_E) := [(75, av_qf (.getfield 7) 8 0 2), (78, av_q (.iconst 0)), (79, av_q (.iaload)), (80, av_q (.iconst 1)), (81, av_q (.isub)), (82, av_q (.ireturn))]
def cf_148 : Nat → Option av_E := (av_br 40 (av_br 20 (av_br 9 (av_lq cl_148_0) (av_lq cl_148_1)) (av_br 30 (av_lq cl_148_2) (av_lq cl_148_3))) (av_br 60 (av_br 50 (av_lq cl_148_4) (av_lq cl_148_5)) (av_br 68 (av_lq cl_148_6) (av_br 74 (av_lq cl_148_7) (av_lq cl_148_8)))))
set_option maxRecDepth 100000 in
set_option maxHeartbeats 4000000 in
theorem ck_148 : ∀ (pc : Nat) (x : av_E), cf_148 pc = some x → cd_148.lookup pc = some x := by
  have h : ∀ q ∈ cl_148_0 ++ (cl_148_1 ++ (cl_148_2 ++ (cl_148_3 ++ (cl_148_4 ++ (cl_148_5 ++ (cl_148_6 ++ (cl_148_7 ++ (cl_148_8)))))))), cd_148.lookup q.1 = some q.2 := av_ascQ (cd := cd_148) (by decide +kernel)
  obtain ⟨h0, h⟩ := List.forall_mem_append.mp h
  obtain ⟨h1, h⟩ := List.forall_mem_append.mp h
  obtain ⟨h2, h⟩ := List.forall_mem_append.mp h
  obtain ⟨h3, h⟩ := List.forall_mem_append.mp h
  obtain ⟨h4, h⟩ := List.forall_mem_append.mp h
  obtain ⟨h5, h⟩ := List.forall_mem_append.mp h
  obtain ⟨h6, h⟩ := List.forall_mem_append.mp h
  obtain ⟨h7, h⟩ := List.forall_mem_append.mp h
  have h8 := h
  exact (av_brP (av_brP (av_brP (av_lqP h0) (av_lqP h1)) (av_brP (av_lqP h2) (av_lqP h3))) (av_brP (av_brP (av_lqP h4) (av_lqP h5)) (av_brP (av_lqP h6) (av_brP (av_lqP h7) (av_lqP h8)))))
def cl_149_0 : List (Nat × av_E) := [(0, av_q (.iload_n 1)), (1, av_qa (.ifCond .lt 17) 18), (4, av_q (.iload_n 1)), (5, av_q (.aload_n 0)), (6, av_qf (.getfield 7) 8 0 2), (9, av_q (.iconst 0))]
def cl_149_1 : List (Nat × av_E) := [(10, av_q (.iaload)), (11, av_qa (.if_icmp .ge 7) 18), (14, av_q (.iconst 1)), (15, av_qa (.goto 4) 19), (18, av_q (.iconst 0)), (19, av_qa (.ireturn) 1)]
def cf_149 : Nat → Option av_E := (av_br 9 (av_lq cl_149_0) (av_lq cl_149_1))
set_option maxRecDepth 100000 in
set_option maxHeartbeats 4000000 in
theorem ck_149 : ∀ (pc : Nat) (x : av_E), cf_149 pc = some x → cd_149.lookup pc = some x := by
  have h : ∀ q ∈ cl_149_0 ++ (cl_149_1), cd_149.lookup q.1 = some q.2 := av_ascQ (cd := cd_149) (by decide +kernel)
  obtain ⟨h0, h⟩ := List.forall_mem_append.mp h
  have h1 := h
  exact (av_brP (av_lqP h0) (av_lqP h1))
def cl_150_0 : List (Nat × av_E) := [(0, av_q (.iload_n 1)), (1, av_qa (.ifCond .lt 17) 18), (4, av_q (.iload_n 1)), (5, av_q (.aload_n 0)), (6, av_qf (.getfield 13) 8 1 2), (9, av_q (.iconst 0))]
def cl_150_1 : List (Nat × av_E) := [(10, av_q (.iaload)), (11, av_qa (.if_icmp .ge 7) 18), (14, av_q (.iconst 1)), (15, av_qa (.goto 4) 19), (18, av_q (.iconst 0)), (19, av_qa (.ireturn) 1)]
def cf_150 : Nat → Option av_E := (av_br 9 (av_lq cl_150_0) (av_lq cl_150_1))
set_option maxRecDepth 100000 in
set_option maxHeartbeats 4000000 in
theorem ck_150 : ∀ (pc : Nat) (x : av_E), cf_150 pc = some x → cd_150.lookup pc = some x := by
  have h : ∀ q ∈ cl_150_0 ++ (cl_150_1), cd_150.lookup q.1 = some q.2 := av_ascQ (cd := cd_150) (by decide +kernel)
  obtain ⟨h0, h⟩ := List.forall_mem_append.mp h
  have h1 := h
  exact (av_brP (av_lqP h0) (av_lqP h1))
def cl_151_0 : List (Nat × av_E) := [(0, av_q (.aload_n 0)), (1, av_q (.iload_n 1)), (2, av_qc (.invokevirtual 299) 149 1 0 8), (5, av_qa (.ifCond .eq 15) 20), (8, av_q (.iload_n 2)), (9, av_qa (.ifCond .lt 11) 20)]
def cl_151_1 : List (Nat × av_E) := [(12, av_q (.iload_n 2)), (13, av_q (.aload_n 0)), (14, av_qf (.getfield 148) 8 17 0), (17, av_qa (.if_icmp .le 6) 23), (20, av_q (.bipush (-2))), (22, av_q (.ireturn))]
def cl_151_2 : List (Nat × av_E) := [(23, av_q (.aload_n 0)), (24, av_q (.iload_n 2)), (25, av_qc (.invokevirtual 293) 136 1 0 8), (28, av_q (.aload_n 0)), (29, av_q (.iload_n 1)), (30, av_q (.aload_n 0))]
def cl_151_3 : List (Nat × av_E) := [(31, av_qf (.getfield 19) 8 3 2), (34, av_q (.iload_n 1)), (35, av_q (.iaload)), (36, av_qc (.invokevirtual 296) 147 2 0 8), (39, av_q (.istore_n 3)), (40, av_q (.iload_n 3))]
def cl_151_4 : List (Nat × av_E) := [(41, av_qa (.ifCond .ge 5) 46), (44, av_q (.iconst (-1))), (45, av_q (.ireturn)), (46, av_q (.aload_n 0)), (47, av_qf (.getfield 19) 8 3 2), (50, av_q (.iload_n 1))]
def cl_151_5 : List (Nat × av_E) := [(51, av_q (.iload_n 3)), (52, av_q (.iastore)), (53, av_q (.iload_n 3)), (54, av_q (.ireturn))]
def cf_151 : Nat → Option av_E := (av_br 30 (av_br 9 (av_lq cl_151_0) (av_br 22 (av_lq cl_151_1) (av_lq cl_151_2))) (av_br 40 (av_lq cl_151_3) (av_br 50 (av_lq cl_151_4) (av_lq cl_151_5))))
set_option maxRecDepth 100000 in
set_option maxHeartbeats 4000000 in
theorem ck_151 : ∀ (pc : Nat) (x : av_E), cf_151 pc = some x → cd_151.lookup pc = some x := by
  have h : ∀ q ∈ cl_151_0 ++ (cl_151_1 ++ (cl_151_2 ++ (cl_151_3 ++ (cl_151_4 ++ (cl_151_5))))), cd_151.lookup q.1 = some q.2 := av_ascQ (cd := cd_151) (by decide +kernel)
  obtain ⟨h0, h⟩ := List.forall_mem_append.mp h
  obtain ⟨h1, h⟩ := List.forall_mem_append.mp h
  obtain ⟨h2, h⟩ := List.forall_mem_append.mp h
  obtain ⟨h3, h⟩ := List.forall_mem_append.mp h
  obtain ⟨h4, h⟩ := List.forall_mem_append.mp h
  have h5 := h
  exact (av_brP (av_brP (av_lqP h0) (av_brP (av_lqP h1) (av_lqP h2))) (av_brP (av_lqP h3) (av_brP (av_lqP h4) (av_lqP h5))))
def cl_152_0 : List (Nat × av_E) := [(0, av_q (.aload_n 0)), (1, av_qk (.ldc2_w 302) (378020)), (4, av_qc (.invokevirtual 187) 132 1 0 8), (7, av_qa (.ifCond .eq 7) 14), (10, av_q (.iconst 0)), (11, av_qa (.goto 32) 43)]
def cl_152_1 : List (Nat × av_E) := [(14, av_q (.aload_n 0)), (15, av_qk (.ldc2_w 304) (70340)), (18, av_qc (.invokevirtual 187) 132 1 0 8), (21, av_qa (.ifCond .eq 7) 28), (24, av_q (.iconst 1)), (25, av_qa (.goto 18) 43)]
def cl_152_2 : List (Nat × av_E) := [(28, av_q (.aload_n 0)), (29, av_qk (.ldc2_w 253) (357970)), (32, av_qc (.invokevirtual 187) 132 1 0 8), (35, av_qa (.ifCond .eq 7) 42), (38, av_q (.iconst 2)), (39, av_qa (.goto 4) 43)]
def cl_152_3 : List (Nat × av_E) := [(42, av_q (.iconst (-1))), (43, av_q (.istore_n 1)), (44, av_q (.iload_n 1)), (45, av_qa (.ifCond .ge 10) 55), (48, av_q (.aload_n 0)), (49, av_qc (.invokevirtual 194) 131 0 0 8)]
def cl_152_4 : List (Nat × av_E) := [(52, av_qa (.goto 7) 59), (55, av_q (.aload_n 0)), (56, av_qc (.invokevirtual 191) 130 0 0 8), (59, av_q (.iload_n 1)), (60, av_q (.ireturn))]
def cf_152 : Nat → Option av_E := (av_br 25 (av_br 11 (av_lq cl_152_0) (av_lq cl_152_1)) (av_br 39 (av_lq cl_152_2) (av_br 49 (av_lq cl_152_3) (av_lq cl_152_4))))
set_option maxRecDepth 100000 in
set_option maxHeartbeats 4000000 in
theorem ck_152 : ∀ (pc : Nat) (x : av_E), cf_152 pc = some x → cd_152.lookup pc = some x := by
  have h : ∀ q ∈ cl_152_0 ++ (cl_152_1 ++ (cl_152_2 ++ (cl_152_3 ++ (cl_152_4)))), cd_152.lookup q.1 = some q.2 := av_ascQ (cd := cd_152) (by decide +kernel)
  obtain ⟨h0, h⟩ := List.forall_mem_append.mp h
  obtain ⟨h1, h⟩ := List.forall_mem_append.mp h
  obtain ⟨h2, h⟩ := List.forall_mem_append.mp h
  obtain ⟨h3, h⟩ := List.forall_mem_append.mp h
  have h4 := h
  exact (av_brP (av_brP (av_lqP h0) (av_lqP h1)) (av_brP (av_lqP h2) (av_brP (av_lqP h3) (av_lqP h4))))
def cl_153_0 : List (Nat × av_E) := [(0, av_q (.aload_n 0)), (1, av_q (.lload_n 1)), (2, av_qc (.invokevirtual 187) 132 1 0 8), (5, av_qa (.ifCond .eq 7) 12), (8, av_q (.iconst 0)), (9, av_qa (.goto 29) 38)]
def cl_153_1 : List (Nat × av_E) := [(12, av_q (.aload_n 0)), (13, av_q (.lload_n 3)), (14, av_qc (.invokevirtual 187) 132 1 0 8), (17, av_qa (.ifCond .eq 7) 24), (20, av_q (.iconst 1)), (21, av_qa (.goto 17) 38)]
def cl_153_2 : List (Nat × av_E) := [(24, av_q (.aload_n 0)), (25, av_q (.lload 5)), (27, av_qc (.invokevirtual 187) 132 1 0 8), (30, av_qa (.ifCond .eq 7) 37), (33, av_q (.iconst 2)), (34, av_qa (.goto 4) 38)]
def cl_153_3 : List (Nat × av_E) := [(37, av_q (.iconst (-1))), (38, av_q (.istore 7)), (40, av_q (.iload 7)), (42, av_qa (.ifCond .ge 10) 52), (45, av_q (.aload_n 0)), (46, av_qc (.invokevirtual 194) 131 0 0 8)]
def cl_153_4 : List (Nat × av_E) := [(49, av_qa (.goto 7) 56), (52, av_q (.aload_n 0)), (53, av_qc (.invokevirtual 191) 130 0 0 8), (56, av_q (.iload 7)), (58, av_q (.ireturn))]
def cf_153 : Nat → Option av_E := (av_br 21 (av_br 9 (av_lq cl_153_0) (av_lq cl_153_1)) (av_br 34 (av_lq cl_153_2) (av_br 46 (av_lq cl_153_3) (av_lq cl_153_4))))
set_option maxRecDepth 100000 in
set_option maxHeartbeats 4000000 in
theorem ck_153 : ∀ (pc : Nat) (x : av_E), cf_153 pc = some x → cd_153.lookup pc = some x := by
  have h : ∀ q ∈ cl_153_0 ++ (cl_153_1 ++ (cl_153_2 ++ (cl_153_3 ++ (cl_153_4)))), cd_153.lookup q.1 = some q.2 := av_ascQ (cd := cd_153) (by decide +kernel)
  obtain ⟨h0, h⟩ := List.forall_mem_append.mp h
  obtain ⟨h1, h⟩ := List.forall_mem_append.mp h
  obtain ⟨h2, h⟩ := List.forall_mem_append.mp h
  obtain ⟨h3, h⟩ := List.forall_mem_append.mp h
  have h4 := h
  exact (av_brP (av_brP (av_lqP h0) (av_lqP h1)) (av_brP (av_lqP h2) (av_brP (av_lqP h3) (av_lqP h4))))
def cl_154_0 : List (Nat × av_E) := [(0, av_q (.aload_n 0)), (1, av_qk (.ldc2_w 213) (18379)), (4, av_qc (.invokevirtual 187) 132 1 0 8), (7, av_qa (.ifCond .eq 93) 100), (10, av_q (.aload_n 0)), (11, av_qc (.invokevirtual 191) 130 0 0 8)]
def cl_154_1 : List (Nat × av_E) := [(14, av_q (.aload_n 0)), (15, av_qk (.ldc2_w 306) (1065)), (18, av_qc (.invokevirtual 187) 132 1 0 8), (21, av_qa (.ifCond .eq 7) 28), (24, av_q (.iconst 3)), (25, av_qa (.goto 4) 29)]
def cl_154_2 : List (Nat × av_E) := [(28, av_q (.iconst (-1))), (29, av_q (.istore_n 2)), (30, av_q (.iload_n 2)), (31, av_q (.iconst 3)), (32, av_qa (.if_icmp .ne 10) 42), (35, av_q (.aload_n 0))]
def cl_154_3 : List (Nat × av_E) := [(36, av_qc (.invokevirtual 191) 130 0 0 8), (39, av_qa (.goto 17) 56), (42, av_q (.aload_n 0)), (43, av_qk (.ldc2_w 223) (326396)), (46, av_qk (.ldc2_w 225) (459761)), (49, av_qk (.ldc2_w 227) (7219835))]
def cl_154_4 : List (Nat × av_E) := [(52, av_qc (.invokevirtual 308) 153 3 0 8), (55, av_q (.istore_n 2)), (56, av_q (.aload_n 0)), (57, av_qc (.invokevirtual 312) 152 0 0 8), (60, av_q (.istore_n 3)), (61, av_q (.iconst 0))]
def cl_154_5 : List (Nat × av_E) := [(62, av_q (.istore 4)), (64, av_q (.iload 4)), (66, av_q (.iconst 3)), (67, av_qa (.if_icmp .ge 30) 97), (70, av_q (.iload_n 2)), (71, av_q (.iconst 3))]
def cl_154_6 : List (Nat × av_E) := [(72, av_qa (.if_icmp .eq 9) 81), (75, av_q (.iload_n 2)), (76, av_q (.iload 4)), (78, av_qa (.if_icmp .ne 13) 91), (81, av_q (.aload_n 0)), (82, av_qf (.getfield 55) 8 15 2)]
def cl_154_7 : List (Nat × av_E) := [(85, av_q (.iload_n 1)), (86, av_q (.iload 4)), (88, av_q (.iadd)), (89, av_q (.iload_n 3)), (90, av_q (.iastore)), (91, av_q (.iinc 4 1))]
def cl_154_8 : List (Nat × av_E) := [(94, av_qa (.goto (-30)) 64), (97, av_qa (.goto 357) 454), (100, av_q (.aload_n 0)), (101, av_qk (.ldc2_w 209) (8094240)), (104, av_qc (.invokevirtual 187) 132 1 0 8), (107, av_qa (.ifCond .eq 22) 129)]
def cl_154_9 : List (Nat × av_E) := [(110, av_q (.aload_n 0)), (111, av_qc (.invokevirtual 191) 130 0 0 8), (114, av_q (.aload_n 0)), (115, av_qf (.getfield 55) 8 15 2), (118, av_q (.iload_n 1)), (119, av_q (.iconst 3))]
def cl_154_10 : List (Nat × av_E) := [(120, av_q (.iadd)), (121, av_q (.aload_n 0)), (122, av_qc (.invokevirtual 312) 152 0 0 8), (125, av_q (.iastore)), (126, av_qa (.goto 328) 454), (129, av_q (.aload_n 0))]
def cl_154_11 : List (Nat × av_E) := [(130, av_qk (.ldc2_w 217) (40187)), (133, av_qc (.invokevirtual 187) 132 1 0 8), (136, av_qa (.ifCond .eq 22) 158), (139, av_q (.aload_n 0)), (140, av_qc (.invokevirtual 191) 130 0 0 8), (143, av_q (.aload_n 0))]
def cl_154_12 : List (Nat × av_E) := [(144, av_qf (.getfield 55) 8 15 2), (147, av_q (.iload_n 1)), (148, av_q (.iconst 4)), (149, av_q (.iadd)), (150, av_q (.aload_n 0)), (151, av_qc (.invokevirtual 312) 152 0 0 8)]
def cl_154_13 : List (Nat × av_E) := [(154, av_q (.iastore)), (155, av_qa (.goto 299) 454), (158, av_q (.aload_n 0)), (159, av_qk (.ldc2_w 215) (393)), (162, av_qc (.invokevirtual 187) 132 1 0 8), (165, av_qa (.ifCond .eq 22) 187)]
def cl_154_14 : List (Nat × av_E) := [(168, av_q (.aload_n 0)), (169, av_qc (.invokevirtual 191) 130 0 0 8), (172, av_q (.aload_n 0)), (173, av_qf (.getfield 55) 8 15 2), (176, av_q (.iload_n 1)), (177, av_q (.iconst 5))]
def cl_154_15 : List (Nat × av_E) := [(178, av_q (.iadd)), (179, av_q (.aload_n 0)), (180, av_qc (.invokevirtual 312) 152 0 0 8), (183, av_q (.iastore)), (184, av_qa (.goto 270) 454), (187, av_q (.aload_n 0))]
def cl_154_16 : List (Nat × av_E) := [(188, av_qk (.ldc2_w 276) (168727)), (191, av_qc (.invokevirtual 187) 132 1 0 8), (194, av_qa (.ifCond .eq 32) 226), (197, av_q (.aload_n 0)), (198, av_qc (.invokevirtual 191) 130 0 0 8), (201, av_q (.aload_n 0))]
def cl_154_17 : List (Nat × av_E) := [(202, av_qf (.getfield 55) 8 15 2), (205, av_q (.iload_n 1)), (206, av_q (.bipush 6)), (208, av_q (.iadd)), (209, av_q (.aload_n 0)), (210, av_qk (.ldc2_w 315) (131360))]
def cl_154_18 : List (Nat × av_E) := [(213, av_qk (.ldc2_w 317) (1250362)), (216, av_qk (.ldc2_w 319) (-9)), (219, av_qc (.invokevirtual 308) 153 3 0 8), (222, av_q (.iastore)), (223, av_qa (.goto 231) 454), (226, av_q (.aload_n 0))]
def cl_154_19 : List (Nat × av_E) := [(227, av_qk (.ldc2_w 321) (6409157)), (230, av_qc (.invokevirtual 187) 132 1 0 8), (233, av_qa (.ifCond .eq 27) 260), (236, av_q (.aload_n 0)), (237, av_qc (.invokevirtual 191) 130 0 0 8), (240, av_q (.aload_n 0))]
def cl_154_20 : List (Nat × av_E) := [(241, av_qf (.getfield 55) 8 15 2), (244, av_q (.iload_n 1)), (245, av_q (.bipush 7)), (247, av_q (.iadd)), (248, av_q (.aload_n 0)), (249, av_q (.iconst 0))]
def cl_154_21 : List (Nat × av_E) := [(250, av_q (.sipush 999)), (253, av_qc (.invokevirtual 232) 134 2 0 8), (256, av_q (.iastore)), (257, av_qa (.goto 197) 454), (260, av_q (.aload_n 0)), (261, av_qk (.ldc2_w 323) (7496615453))]
def cl_154_22 : List (Nat × av_E) := [(264, av_qc (.invokevirtual 187) 132 1 0 8), (267, av_qa (.ifCond .eq 27) 294), (270, av_q (.aload_n 0)), (271, av_qc (.invokevirtual 191) 130 0 0 8), (274, av_q (.aload_n 0)), (275, av_qf (.getfield 55) 8 15 2)]
def cl_154_23 : List (Nat × av_E) := [(278, av_q (.iload_n 1)), (279, av_q (.bipush 8)), (281, av_q (.iadd)), (282, av_q (.aload_n 0)), (283, av_q (.iconst 0)), (284, av_q (.sipush 999))]
def cl_154_24 : List (Nat × av_E) := [(287, av_qc (.invokevirtual 232) 134 2 0 8), (290, av_q (.iastore)), (291, av_qa (.goto 163) 454), (294, av_q (.aload_n 0)), (295, av_qk (.ldc2_w 280) (2045)), (298, av_qc (.invokevirtual 187) 132 1 0 8)]
def cl_154_25 : List (Nat × av_E) := [(301, av_qa (.ifCond .eq 32) 333), (304, av_q (.aload_n 0)), (305, av_qc (.invokevirtual 191) 130 0 0 8), (308, av_q (.aload_n 0)), (309, av_qf (.getfield 55) 8 15 2), (312, av_q (.iload_n 1))]
def cl_154_26 : List (Nat × av_E) := [(313, av_q (.bipush 9)), (315, av_q (.iadd)), (316, av_q (.aload_n 0)), (317, av_qk (.ldc2_w 215) (393)), (320, av_qk (.ldc2_w 325) (10354323)), (323, av_qk (.ldc2_w 319) (-9))]
def cl_154_27 : List (Nat × av_E) := [(326, av_qc (.invokevirtual 308) 153 3 0 8), (329, av_q (.iastore)), (330, av_qa (.goto 124) 454), (333, av_q (.aload_n 0)), (334, av_qk (.ldc2_w 327) (129532)), (337, av_qc (.invokevirtual 187) 132 1 0 8)]
def cl_154_28 : List (Nat × av_E) := [(340, av_qa (.ifCond .eq 32) 372), (343, av_q (.aload_n 0)), (344, av_qc (.invokevirtual 191) 130 0 0 8), (347, av_q (.aload_n 0)), (348, av_qf (.getfield 55) 8 15 2), (351, av_q (.iload_n 1))]
def cl_154_29 : List (Nat × av_E) := [(352, av_q (.bipush 10)), (354, av_q (.iadd)), (355, av_q (.aload_n 0)), (356, av_qk (.ldc2_w 329) (3379448)), (359, av_qk (.ldc2_w 331) (237458)), (362, av_qk (.ldc2_w 333) (286880))]
def cl_154_30 : List (Nat × av_E) := [(365, av_qc (.invokevirtual 308) 153 3 0 8), (368, av_q (.iastore)), (369, av_qa (.goto 85) 454), (372, av_q (.aload_n 0)), (373, av_qk (.ldc2_w 219) (82516)), (376, av_qc (.invokevirtual 187) 132 1 0 8)]
def cl_154_31 : List (Nat × av_E) := [(379, av_qa (.ifCond .eq 32) 411), (382, av_q (.aload_n 0)), (383, av_qc (.invokevirtual 191) 130 0 0 8), (386, av_q (.aload_n 0)), (387, av_qf (.getfield 55) 8 15 2), (390, av_q (.iload_n 1))]
def cl_154_32 : List (Nat × av_E) := [(391, av_q (.bipush 11)), (393, av_q (.iadd)), (394, av_q (.aload_n 0)), (395, av_qk (.ldc2_w 333) (286880)), (398, av_qk (.ldc2_w 213) (18379)), (401, av_qk (.ldc2_w 319) (-9))]
def cl_154_33 : List (Nat × av_E) := [(404, av_qc (.invokevirtual 308) 153 3 0 8), (407, av_q (.iastore)), (408, av_qa (.goto 46) 454), (411, av_q (.aload_n 0)), (412, av_qk (.ldc2_w 335) (361379)), (415, av_qc (.invokevirtual 187) 132 1 0 8)]
def cl_154_34 : List (Nat × av_E) := [(418, av_qa (.ifCond .eq 32) 450), (421, av_q (.aload_n 0)), (422, av_qc (.invokevirtual 191) 130 0 0 8), (425, av_q (.aload_n 0)), (426, av_qf (.getfield 55) 8 15 2), (429, av_q (.iload_n 1))]
def cl_154_35 : List (Nat × av_E) := [(430, av_q (.bipush 12)), (432, av_q (.iadd)), (433, av_q (.aload_n 0)), (434, av_qk (.ldc2_w 337) (798894590)), (437, av_qk (.ldc2_w 302) (378020)), (440, av_qk (.ldc2_w 304) (70340))]
def cl_154_36 : List (Nat × av_E) := [(443, av_qc (.invokevirtual 308) 153 3 0 8), (446, av_q (.iastore)), (447, av_qa (.goto 7) 454), (450, av_q (.aload_n 0)), (451, av_qc (.invokevirtual 194) 131 0 0 8), (454, av_q (.aload_n 0))]
def cl_154_37 : List (Nat × av_E) := [(455, av_qc (.invokevirtual 286) 135 0 0 8), (458, av_q (.return_))]
def cf_154 : Nat → Option av_E := (av_br 226 (av_br 107 (av_br 49 (av_br 25 (av_br 11 (av_lq cl_154_0) (av_lq cl_154_1)) (av_br 35 (av_lq cl_154_2) (av_lq cl_154_3))) (av_br 71 (av_br 61 (av_lq cl_154_4) (av_lq cl_154_5)) (av_br 82 (av_lq cl_154_6) (av_br 91 (av_lq cl_154_7) (av_lq cl_154_8))))) (av_br 165 (av_br 129 (av_br 119 (av_lq cl_154_9) (av_lq cl_154_10)) (av_br 143 (av_lq cl_154_11) (av_br 151 (av_lq cl_154_12) (av_lq cl_154_13)))) (av_br 187 (av_br 177 (av_lq cl_154_14) (av_lq cl_154_15)) (av_br 201 (av_lq cl_154_16) (av_br 210 (av_lq cl_154_17) (av_lq cl_154_18)))))) (av_br 337 (av_br 275 (av_br 249 (av_br 240 (av_lq cl_154_19) (av_lq cl_154_20)) (av_br 261 (av_lq cl_154_21) (av_lq cl_154_22))) (av_br 298 (av_br 284 (av_lq cl_154_23) (av_lq cl_154_24)) (av_br 312 (av_lq cl_154_25) (av_br 323 (av_lq cl_154_26) (av_lq cl_154_27))))) (av_br 401 (av_br 362 (av_br 351 (av_lq cl_154_28) (av_lq cl_154_29)) (av_br 376 (av_lq cl_154_30) (av_br 390 (av_lq cl_154_31) (av_lq cl_154_32)))) (av_br 429 (av_br 415 (av_lq cl_154_33) (av_lq cl_154_34)) (av_br 440 (av_lq cl_154_35) (av_br 454 (av_lq cl_154_36) (av_lq cl_154_37)))))))
set_option maxRecDepth 100000 in
set_option maxHeartbeats 4000000 in
theorem ck_154 : ∀ (pc : Nat) (x : av_E), cf_154 pc = some x → cd_154.lookup pc = some x := by
  have h : ∀ q ∈ cl_154_0 ++ (cl_154_1 ++ (cl_154_2 ++ (cl_154_3 ++ (cl_154_4 ++ (cl_154_5 ++ (cl_154_6 ++ (cl_154_7 ++ (cl_154_8 ++ (cl_154_9 ++ (cl_154_10 ++ (cl_154_11 ++ (cl_154_12 ++ (cl_154_13 ++ (cl_154_14 ++ (cl_154_15 ++ (cl_154_16 ++ (cl_154_17 ++ (cl_154_18 ++ (cl_154_19 ++ (cl_154_20 ++ (cl_154_21 ++ (cl_154_22 ++ (cl_154_23 ++ (cl_154_24 ++ (cl_154_25 ++ (cl_154_26 ++ (cl_154_27 ++ (cl_154_28 ++ (cl_154_29 ++ (cl_154_30 ++ (cl_154_31 ++ (cl_154_32 ++ (cl_154_33 ++ (cl_154_34 ++ (cl_154_35 ++ (cl_154_36 ++ (cl_154_37))))))))))))))))))))))))))))))))))))), cd_154.lookup q.1 = some q.2 := av_ascQ (cd := cd_154) (by decide +kernel)
  obtain ⟨h0, h⟩ := List.forall_mem_append.mp h
  obtain ⟨h1, h⟩ := List.forall_mem_append.mp h
  obtain ⟨h2, h⟩ := List.forall_mem_append.mp h
  obtain ⟨h3, h⟩ := List.forall_mem_append.mp h
  obtain ⟨h4, h⟩ := List.forall_mem_append.mp h
  obtain ⟨h5, h⟩ := List.forall_mem_append.mp h
  obtain ⟨h6, h⟩ := List.forall_mem_append.mp h
  obtain ⟨h7, h⟩ := List.forall_mem_append.mp h
  obtain ⟨h8, h⟩ := List.forall_mem_append.mp h
  obtain ⟨h9, h⟩ := List.forall_mem_append.mp h
  obtain ⟨h10, h⟩ := List.forall_mem_append.mp h
  obtain ⟨h11, h⟩ := List.forall_mem_append.mp h
  obtain ⟨h12, h⟩ := List.forall_mem_append.mp h
  obtain ⟨h13, h⟩ := List.forall_mem_append.mp h
  obtain ⟨h14, h⟩ := List.forall_mem_append.mp h
  obtain ⟨h15, h⟩ := List.forall_mem_append.mp h
  obtain ⟨h16, h⟩ := List.forall_mem_append.mp h
  obtain ⟨h17, h⟩ := List.forall_mem_append.mp h
  obtain ⟨h18, h⟩ := List.forall_mem_append.mp h
  obtain ⟨h19, h⟩ := List.forall_mem_append.mp h
  obtain ⟨h20, h⟩ := List.forall_mem_append.mp h
  obtain ⟨h21, h⟩ := List.forall_mem_append.mp h
  obtain ⟨h22, h⟩ := List.forall_mem_append.mp h
  obtain ⟨h23, h⟩ := List.forall_mem_append.mp h
  obtain ⟨h24, h⟩ := List.forall_mem_append.mp h
  obtain ⟨h25, h⟩ := List.forall_mem_append.mp h
  obtain ⟨h26, h⟩ := List.forall_mem_append.mp h
  obtain ⟨h27, h⟩ := List.forall_mem_append.mp h
  obtain ⟨h28, h⟩ := List.forall_mem_append.mp h
  obtain ⟨h29, h⟩ := List.forall_mem_append.mp h
  obtain ⟨h30, h⟩ := List.forall_mem_append.mp h
  obtain ⟨h31, h⟩ := List.forall_mem_append.mp h
  obtain ⟨h32, h⟩ := List.forall_mem_append.mp h
  obtain ⟨h33, h⟩ := List.forall_mem_append.mp h
  obtain ⟨h34, h⟩ := List.forall_mem_append.mp h
  obtain ⟨h35, h⟩ := List.forall_mem_append.mp h
  obtain ⟨h36, h⟩ := List.forall_mem_append.mp h
  have h37 := h
  exact (av_brP (av_brP (av_brP (av_brP (av_brP (av_lqP h0) (av_lqP h1)) (av_brP (av_lqP h2) (av_lqP h3))) (av_brP (av_brP (av_lqP h4) (av_lqP h5)) (av_brP (av_lqP h6) (av_brP (av_lqP h7) (av_lqP h8))))) (av_brP (av_brP (av_brP (av_lqP h9) (av_lqP h10)) (av_brP (av_lqP h11) (av_brP (av_lqP h12) (av_lqP h13)))) (av_brP (av_brP (av_lqP h14) (av_lqP h15)) (av_brP (av_lqP h16) (av_brP (av_lqP h17) (av_lqP h18)))))) (av_brP (av_brP (av_brP (av_brP (av_lqP h19) (av_lqP h20)) (av_brP (av_lqP h21) (av_lqP h22))) (av_brP (av_brP (av_lqP h23) (av_lqP h24)) (av_brP (av_lqP h25) (av_brP (av_lqP h26) (av_lqP h27))))) (av_brP (av_brP (av_brP (av_lqP h28) (av_lqP h29)) (av_brP (av_lqP h30) (av_brP (av_lqP h31) (av_lqP h32)))) (av_brP (av_brP (av_lqP h33) (av_lqP h34)) (av_brP (av_lqP h35) (av_brP (av_lqP h36) (av_lqP h37)))))))
def cl_155_0 : List (Nat × av_E) := [(0, av_q (.iconst 0)), (1, av_q (.istore_n 2)), (2, av_q (.iload_n 2)), (3, av_q (.bipush 13)), (5, av_qa (.if_icmp .ge 19) 24), (8, av_q (.aload_n 0))]
def cl_155_1 : List (Nat × av_E) := [(9, av_qf (.getfield 55) 8 15 2), (12, av_q (.iload_n 1)), (13, av_q (.iload_n 2)), (14, av_q (.iadd)), (15, av_q (.bipush (-2))), (17, av_q (.iastore))]
def cl_155_2 : List (Nat × av_E) := [(18, av_q (.iinc 2 1)), (21, av_qa (.goto (-19)) 2), (24, av_q (.iconst 0)), (25, av_q (.istore_n 2)), (26, av_q (.aload_n 0)), (27, av_qf (.getfield 173) 8 22 0)]
def cl_155_3 : List (Nat × av_E) := [(30, av_qa (.ifCond .eq 34) 64), (33, av_q (.aload_n 0)), (34, av_qf (.getfield 183) 8 25 3), (37, av_qa (.ifCond .ne 27) 64), (40, av_q (.iload_n 2)), (41, av_q (.bipush 20))]
def cl_155_4 : List (Nat × av_E) := [(43, av_qa (.if_icmp .ne 10) 53), (46, av_q (.aload_n 0)), (47, av_qc (.invokevirtual 194) 131 0 0 8), (50, av_qa (.goto 8) 58), (53, av_q (.aload_n 0)), (54, av_q (.iload_n 1))]
def cl_155_5 : List (Nat × av_E) := [(55, av_qc (.invokevirtual 339) 154 1 0 8), (58, av_q (.iinc 2 1)), (61, av_qa (.goto (-35)) 26), (64, av_q (.aload_n 0)), (65, av_qf (.getfield 55) 8 15 2), (68, av_q (.iload_n 1))]
def cl_155_6 : List (Nat × av_E) := [(69, av_q (.bipush 13)), (71, av_q (.iadd)), (72, av_q (.iload_n 2)), (73, av_q (.iastore)), (74, av_q (.aload_n 0)), (75, av_qf (.getfield 183) 8 25 3)]
def cl_155_7 : List (Nat × av_E) := [(78, av_qa (.ifCond .ne 7) 85), (81, av_q (.iconst 1)), (82, av_qa (.goto 4) 86), (85, av_q (.iconst 0)), (86, av_qa (.ireturn) 1)]
def cf_155 : Nat → Option av_E := (av_br 41 (av_br 17 (av_br 8 (av_lq cl_155_0) (av_lq cl_155_1)) (av_br 27 (av_lq cl_155_2) (av_lq cl_155_3))) (av_br 68 (av_br 54 (av_lq cl_155_4) (av_lq cl_155_5)) (av_br 75 (av_lq cl_155_6) (av_lq cl_155_7))))
set_option maxRecDepth 100000 in
set_option maxHeartbeats 4000000 in
theorem ck_155 : ∀ (pc : Nat) (x : av_E), cf_155 pc = some x → cd_155.lookup pc = some x := by
  have h : ∀ q ∈ cl_155_0 ++ (cl_155_1 ++ (cl_155_2 ++ (cl_155_3 ++ (cl_155_4 ++ (cl_155_5 ++ (cl_155_6 ++ (cl_155_7))))))), cd_155.lookup q.1 = some q.2 := av_ascQ (cd := cd_155) (by decide +kernel)
  obtain ⟨h0, h⟩ := List.forall_mem_append.mp h
  obtain ⟨h1, h⟩ := List.forall_mem_append.mp h
  obtain ⟨h2, h⟩ := List.forall_mem_append.mp h
  obtain ⟨h3, h⟩ := List.forall_mem_append.mp h
  obtain ⟨h4, h⟩ := List.forall_mem_append.mp h
  obtain ⟨h5, h⟩ := List.forall_mem_append.mp h
  obtain ⟨h6, h⟩ := List.forall_mem_append.mp h
  have h7 := h
  exact (av_brP (av_brP (av_brP (av_lqP h0) (av_lqP h1)) (av_brP (av_lqP h2) (av_lqP h3))) (av_brP (av_brP (av_lqP h4) (av_lqP h5)) (av_brP (av_lqP h6) (av_lqP h7))))
def cl_156_0 : List (Nat × av_E) := [(0, av_q (.iload_n 1)), (1, av_qa (.ifCond .lt 11) 12), (4, av_q (.iload_n 1)), (5, av_q (.aload_n 0)), (6, av_qf (.getfield 148) 8 17 0), (9, av_qa (.if_icmp .le 6) 15)]
def cl_156_1 : List (Nat × av_E) := [(12, av_q (.bipush (-2))), (14, av_q (.ireturn)), (15, av_q (.aload_n 0)), (16, av_qf (.getfield 13) 8 1 2), (19, av_q (.iconst 0)), (20, av_q (.iaload))]
def cl_156_2 : List (Nat × av_E) := [(21, av_q (.bipush 8)), (23, av_qa (.if_icmp .ne 6) 29), (26, av_q (.bipush (-3))), (28, av_q (.ireturn)), (29, av_q (.aload_n 0)), (30, av_q (.iload_n 1))]
def cl_156_3 : List (Nat × av_E) := [(31, av_qc (.invokevirtual 293) 136 1 0 8), (34, av_q (.aload_n 0)), (35, av_q (.bipush 14)), (37, av_q (.aload_n 0)), (38, av_qf (.getfield 13) 8 1 2), (41, av_q (.iconst 0))]
def cl_156_4 : List (Nat × av_E) := [(42, av_q (.iaload)), (43, av_q (.imul)), (44, av_qc (.invokevirtual 342) 155 1 0 8), (47, av_qa (.ifCond .ne 5) 52), (50, av_q (.iconst (-1))), (51, av_q (.ireturn))]
def cl_156_5 : List (Nat × av_E) := [(52, av_q (.aload_n 0)), (53, av_qf (.getfield 13) 8 1 2), (56, av_q (.iconst 0)), (57, av_q (.dup2)), (58, av_q (.iaload)), (59, av_q (.iconst 1))]
def cl_156_6 : List (Nat × av_E) := [(60, av_q (.iadd)), (61, av_q (.iastore)), (62, av_q (.aload_n 0)), (63, av_qf (.getfield 13) 8 1 2), (66, av_q (.iconst 0)), (67, av_q (.iaload))]
def cl_156_7 : List (Nat × av_E) := [(68, av_q (.iconst 1)), (69, av_q (.isub)), (70, av_q (.ireturn))]
def cf_156 : Nat → Option av_E := (av_br 41 (av_br 20 (av_br 9 (av_lq cl_156_0) (av_lq cl_156_1)) (av_br 30 (av_lq cl_156_2) (av_lq cl_156_3))) (av_br 59 (av_br 51 (av_lq cl_156_4) (av_lq cl_156_5)) (av_br 67 (av_lq cl_156_6) (av_lq cl_156_7))))
set_option maxRecDepth 100000 in
set_option maxHeartbeats 4000000 in
theorem ck_156 : ∀ (pc : Nat) (x : av_E), cf_156 pc = some x → cd_156.lookup pc = some x := by
  have h : ∀ q ∈ cl_156_0 ++ (cl_156_1 ++ (cl_156_2 ++ (cl_156_3 ++ (cl_156_4 ++ (cl_156_5 ++ (cl_156_6 ++ (cl_156_7))))))), cd_156.lookup q.1 = some q.2 := av_ascQ (cd := cd_156) (by decide +kernel)
  obtain ⟨h0, h⟩ := List.forall_mem_append.mp h
  obtain ⟨h1, h⟩ := List.forall_mem_append.mp h
  obtain ⟨h2, h⟩ := List.forall_mem_append.mp h
  obtain ⟨h3, h⟩ := List.forall_mem_append.mp h
  obtain ⟨h4, h⟩ := List.forall_mem_append.mp h
  obtain ⟨h5, h⟩ := List.forall_mem_append.mp h
  obtain ⟨h6, h⟩ := List.forall_mem_append.mp h
  have h7 := h
  exact (av_brP (av_brP (av_brP (av_lqP h0) (av_lqP h1)) (av_brP (av_lqP h2) (av_lqP h3))) (av_brP (av_brP (av_lqP h4) (av_lqP h5)) (av_brP (av_lqP h6) (av_lqP h7))))
def cl_157_0 : List (Nat × av_E) := [(0, av_q (.iload_n 1)), (1, av_qa (.ifCond .lt 11) 12), (4, av_q (.iload_n 1)), (5, av_q (.aload_n 0)), (6, av_qf (.getfield 148) 8 17 0), (9, av_qa (.if_icmp .le 6) 15)]
def cl_157_1 : List (Nat × av_E) := [(12, av_q (.bipush (-2))), (14, av_q (.ireturn)), (15, av_q (.aload_n 0)), (16, av_qf (.getfield 16) 8 2 2), (19, av_q (.iconst 0)), (20, av_q (.iaload))]
def cl_157_2 : List (Nat × av_E) := [(21, av_q (.bipush 6)), (23, av_qa (.if_icmp .ne 6) 29), (26, av_q (.bipush (-3))), (28, av_q (.ireturn)), (29, av_q (.aload_n 0)), (30, av_q (.iload_n 1))]
def cl_157_3 : List (Nat × av_E) := [(31, av_qc (.invokevirtual 293) 136 1 0 8), (34, av_q (.aload_n 0)), (35, av_qf (.getfield 173) 8 22 0), (38, av_qa (.ifCond .ne 7) 45), (41, av_q (.aload_n 0)), (42, av_qc (.invokevirtual 194) 131 0 0 8)]
def cl_157_4 : List (Nat × av_E) := [(45, av_q (.aload_n 0)), (46, av_q (.bipush 112)), (48, av_q (.bipush 14)), (50, av_q (.aload_n 0)), (51, av_qf (.getfield 16) 8 2 2), (54, av_q (.iconst 0))]
def cl_157_5 : List (Nat × av_E) := [(55, av_q (.iaload)), (56, av_q (.imul)), (57, av_q (.iadd)), (58, av_qc (.invokevirtual 342) 155 1 0 8), (61, av_qa (.ifCond .ne 5) 66), (64, av_q (.iconst (-1)))]
def cl_157_6 : List (Nat × av_E) := [(65, av_q (.ireturn)), (66, av_q (.aload_n 0)), (67, av_qf (.getfield 16) 8 2 2), (70, av_q (.iconst 0)), (71, av_q (.dup2)), (72, av_q (.iaload))]
def cl_157_7 : List (Nat × av_E) := [(73, av_q (.iconst 1)), (74, av_q (.iadd)), (75, av_q (.iastore)), (76, av_q (.aload_n 0)), (77, av_qf (.getfield 16) 8 2 2), (80, av_q (.iconst 0))]
def cl_157_8 : List (Nat × av_E) := [(81, av_q (.iaload)), (82, av_q (.iconst 1)), (83, av_q (.isub)), (84, av_q (.ireturn))]
def cf_157 : Nat → Option av_E := (av_br 42 (av_br 20 (av_br 9 (av_lq cl_157_0) (av_lq cl_157_1)) (av_br 30 (av_lq cl_157_2) (av_lq cl_157_3))) (av_br 64 (av_br 54 (av_lq cl_157_4) (av_lq cl_157_5)) (av_br 72 (av_lq cl_157_6) (av_br 80 (av_lq cl_157_7) (av_lq cl_157_8)))))
set_option maxRecDepth 100000 in
set_option maxHeartbeats 4000000 in
theorem ck_157 : ∀ (pc : Nat) (x : av_E), cf_157 pc = some x → cd_157.lookup pc = some x := by
  have h : ∀ q ∈ cl_157_0 ++ (cl_157_1 ++ (cl_157_2 ++ (cl_157_3 ++ (cl_157_4 ++ (cl_157_5 ++ (cl_157_6 ++ (cl_157_7 ++ (cl_157_8)))))))), cd_157.lookup q.1 = some q.2 := av_ascQ (cd := cd_157) (by decide +kernel)
  obtain ⟨h0, h⟩ := List.forall_mem_append.mp h
  obtain ⟨h1, h⟩ := List.forall_mem_append.mp h
  obtain ⟨h2, h⟩ := List.forall_mem_append.mp h
  obtain ⟨h3, h⟩ := List.forall_mem_append.mp h
  obtain ⟨h4, h⟩ := List.forall_mem_append.mp h
  obtain ⟨h5, h⟩ := List.forall_mem_append.mp h
  obtain ⟨h6, h⟩ := List.forall_mem_append.mp h
  obtain ⟨h7, h⟩ := List.forall_mem_append.mp h
  have h8 := h
  exact (av_brP (av_brP (av_brP (av_lqP h0) (av_lqP h1)) (av_brP (av_lqP h2) (av_lqP h3))) (av_brP (av_brP (av_lqP h4) (av_lqP h5)) (av_brP (av_lqP h6) (av_brP (av_lqP h7) (av_lqP h8)))))
def cl_159_0 : List (Nat × av_E) := [(0, av_q (.iconst 0)), (1, av_q (.istore_n 3)), (2, av_q (.iload_n 3)), (3, av_q (.bipush 13)), (5, av_qa (.if_icmp .ge 41) 46), (8, av_q (.aload_n 0))]
def cl_159_1 : List (Nat × av_E) := [(9, av_qf (.getfield 66) 8 26 2), (12, av_q (.iload_n 3)), (13, av_q (.iload_n 3)), (14, av_q (.bipush 6)), (16, av_qa (.if_icmp .ge 7) 23), (19, av_q (.iconst 1))]
def cl_159_2 : List (Nat × av_E) := [(20, av_qa (.goto 19) 39), (23, av_q (.iload_n 3)), (24, av_q (.bipush 7)), (26, av_q (.bipush 8)), (28, av_qc (.invokestatic 176) 127 3 2 8), (31, av_qa (.ifCond .eq 7) 38)]
def cl_159_3 : List (Nat × av_E) := [(34, av_q (.iconst (-1))), (35, av_qa (.goto 4) 39), (38, av_q (.iconst 0)), (39, av_q (.iastore)), (40, av_q (.iinc 3 1)), (43, av_qa (.goto (-41)) 2)]
def cl_159_4 : List (Nat × av_E) := [(46, av_q (.iconst 0)), (47, av_q (.istore_n 3)), (48, av_q (.iload_n 3)), (49, av_q (.bipush 13)), (51, av_qa (.if_icmp .ge 42) 93), (54, av_q (.aload_n 0))]
def cl_159_5 : List (Nat × av_E) := [(55, av_qf (.getfield 55) 8 15 2), (58, av_q (.bipush 14)), (60, av_q (.iload_n 1)), (61, av_q (.imul)), (62, av_q (.iload_n 3)), (63, av_q (.iadd))]
def cl_159_6 : List (Nat × av_E) := [(64, av_q (.iaload)), (65, av_q (.bipush (-2))), (67, av_qa (.if_icmp .eq 20) 87), (70, av_q (.aload_n 0)), (71, av_qf (.getfield 66) 8 26 2), (74, av_q (.iload_n 3))]
def cl_159_7 : List (Nat × av_E) := [(75, av_q (.aload_n 0)), (76, av_qf (.getfield 55) 8 15 2), (79, av_q (.bipush 14)), (81, av_q (.iload_n 1)), (82, av_q (.imul)), (83, av_q (.iload_n 3))]
def cl_159_8 : List (Nat × av_E) := [(84, av_q (.iadd)), (85, av_q (.iaload)), (86, av_q (.iastore)), (87, av_q (.iinc 3 1)), (90, av_qa (.goto (-42)) 48), (93, av_q (.iconst 0))]
def cl_159_9 : List (Nat × av_E) := [(94, av_q (.istore_n 3)), (95, av_q (.iload_n 3)), (96, av_q (.aload_n 0)), (97, av_qf (.getfield 16) 8 2 2), (100, av_q (.iconst 0)), (101, av_q (.iaload))]
def cl_159_10 : List (Nat × av_E) := [(102, av_qa (.if_icmp .ge 76) 178), (105, av_q (.iconst 0)), (106, av_q (.istore 4)), (108, av_q (.iload 4)), (110, av_q (.bipush 13)), (112, av_qa (.if_icmp .ge 60) 172)]
def cl_159_11 : List (Nat × av_E) := [(115, av_q (.iload_n 2)), (116, av_q (.iload_n 3)), (117, av_q (.ishr)), (118, av_q (.iconst 1)), (119, av_q (.iand)), (120, av_q (.iconst 1))]
def cl_159_12 : List (Nat × av_E) := [(121, av_qa (.if_icmp .ne 45) 166), (124, av_q (.aload_n 0)), (125, av_qf (.getfield 55) 8 15 2), (128, av_q (.bipush 112)), (130, av_q (.bipush 14)), (132, av_q (.iload_n 3))]
def cl_159_13 : List (Nat × av_E) := [(133, av_q (.imul)), (134, av_q (.iadd)), (135, av_q (.iload 4)), (137, av_q (.iadd)), (138, av_q (.iaload)), (139, av_q (.bipush (-2)))]
def cl_159_14 : List (Nat × av_E) := [(141, av_qa (.if_icmp .eq 25) 166), (144, av_q (.aload_n 0)), (145, av_qf (.getfield 66) 8 26 2), (148, av_q (.iload 4)), (150, av_q (.aload_n 0)), (151, av_qf (.getfield 55) 8 15 2)]
def cl_159_15 : List (Nat × av_E) := [(154, av_q (.bipush 112)), (156, av_q (.bipush 14)), (158, av_q (.iload_n 3)), (159, av_q (.imul)), (160, av_q (.iadd)), (161, av_q (.iload 4))]
def cl_159_16 : List (Nat × av_E) := [(163, av_q (.iadd)), (164, av_q (.iaload)), (165, av_q (.iastore)), (166, av_q (.iinc 4 1)), (169, av_qa (.goto (-61)) 108), (172, av_q (.iinc 3 1))]
def cl_159_17 : List (Nat × av_E) := [(175, av_qa (.goto (-80)) 95), (178, av_q (.return_))]
def cf_159 : Nat → Option av_E := (av_br 93 (av_br 43 (av_br 19 (av_br 8 (av_lq cl_159_0) (av_lq cl_159_1)) (av_br 31 (av_lq cl_159_2) (av_lq cl_159_3))) (av_br 63 (av_br 54 (av_lq cl_159_4) (av_lq cl_159_5)) (av_br 74 (av_lq cl_159_6) (av_br 83 (av_lq cl_159_7) (av_lq cl_159_8))))) (av_br 132 (av_br 112 (av_br 101 (av_lq cl_159_9) (av_lq cl_159_10)) (av_br 120 (av_lq cl_159_11) (av_lq cl_159_12))) (av_br 151 (av_br 139 (av_lq cl_159_13) (av_lq cl_159_14)) (av_br 161 (av_lq cl_159_15) (av_br 172 (av_lq cl_159_16) (av_lq cl_159_17))))))
set_option maxRecDepth 100000 in
set_option maxHeartbeats 4000000 in
theorem ck_159 : ∀ (pc : Nat) (x : av_E), cf_159 pc = some x → cd_159.lookup pc = some x := by
  have h : ∀ q ∈ cl_159_0 ++ (cl_159_1 ++ (cl_159_2 ++ (cl_159_3 ++ (cl_159_4 ++ (cl_159_5 ++ (cl_159_6 ++ (cl_159_7 ++ (cl_159_8 ++ (cl_159_9 ++ (cl_159_10 ++ (cl_159_11 ++ (cl_159_12 ++ (cl_159_13 ++ (cl_159_14 ++ (cl_159_15 ++ (cl_159_16 ++ (cl_159_17))))))))))))))))), cd_159.lookup q.1 = some q.2 := av_ascQ (cd := cd_159) (by decide +kernel)
  obtain ⟨h0, h⟩ := List.forall_mem_append.mp h
  obtain ⟨h1, h⟩ := List.forall_mem_append.mp h
  obtain ⟨h2, h⟩ := List.forall_mem_append.mp h
  obtain ⟨h3, h⟩ := List.forall_mem_append.mp h
  obtain ⟨h4, h⟩ := List.forall_mem_append.mp h
  obtain ⟨h5, h⟩ := List.forall_mem_append.mp h
  obtain ⟨h6, h⟩ := List.forall_mem_append.mp h
  obtain ⟨h7, h⟩ := List.forall_mem_append.mp h
  obtain ⟨h8, h⟩ := List.forall_mem_append.mp h
  obtain ⟨h9, h⟩ := List.forall_mem_append.mp h
  obtain ⟨h10, h⟩ := List.forall_mem_append.mp h
  obtain ⟨h11, h⟩ := List.forall_mem_append.mp h
  obtain ⟨h12, h⟩ := List.forall_mem_append.mp h
  obtain ⟨h13, h⟩ := List.forall_mem_append.mp h
  obtain ⟨h14, h⟩ := List.forall_mem_append.mp h
  obtain ⟨h15, h⟩ := List.forall_mem_append.mp h
  obtain ⟨h16, h⟩ := List.forall_mem_append.mp h
  have h17 := h
  exact (av_brP (av_brP (av_brP (av_brP (av_lqP h0) (av_lqP h1)) (av_brP (av_lqP h2) (av_lqP h3))) (av_brP (av_brP (av_lqP h4) (av_lqP h5)) (av_brP (av_lqP h6) (av_brP (av_lqP h7) (av_lqP h8))))) (av_brP (av_brP (av_brP (av_lqP h9) (av_lqP h10)) (av_brP (av_lqP h11) (av_lqP h12))) (av_brP (av_brP (av_lqP h13) (av_lqP h14)) (av_brP (av_lqP h15) (av_brP (av_lqP h16) (av_lqP h17))))))
def cl_160_0 : List (Nat × av_E) := [(0, av_q (.aload_n 0)), (1, av_q (.iload_n 1)), (2, av_qc (.invokevirtual 345) 150 1 0 8), (5, av_qa (.ifCond .eq 13) 18), (8, av_q (.iload_n 2)), (9, av_q (.iconst 0))]
def cl_160_1 : List (Nat × av_E) := [(10, av_q (.bipush 13)), (12, av_qc (.invokestatic 176) 127 3 2 8), (15, av_qa (.ifCond .ne 6) 21), (18, av_q (.bipush (-2))), (20, av_q (.ireturn)), (21, av_q (.iload_n 2))]
def cl_160_2 : List (Nat × av_E) := [(22, av_q (.bipush 13)), (24, av_qa (.if_icmp .ne 16) 40), (27, av_q (.aload_n 0)), (28, av_qf (.getfield 55) 8 15 2), (31, av_q (.bipush 14)), (33, av_q (.iload_n 1))]
def cl_160_3 : List (Nat × av_E) := [(34, av_q (.imul)), (35, av_q (.bipush 13)), (37, av_q (.iadd)), (38, av_q (.iaload)), (39, av_q (.ireturn)), (40, av_q (.aload_n 0))]
def cl_160_4 : List (Nat × av_E) := [(41, av_q (.iload_n 1)), (42, av_q (.iconst 0)), (43, av_qc (.invokevirtual 348) 159 2 0 8), (46, av_q (.aload_n 0)), (47, av_qf (.getfield 66) 8 26 2), (50, av_q (.iload_n 2))]
def cl_160_5 : List (Nat × av_E) := [(51, av_q (.iaload)), (52, av_q (.ireturn))]
def cf_160 : Nat → Option av_E := (av_br 33 (av_br 9 (av_lq cl_160_0) (av_br 21 (av_lq cl_160_1) (av_lq cl_160_2))) (av_br 40 (av_lq cl_160_3) (av_br 50 (av_lq cl_160_4) (av_lq cl_160_5))))
set_option maxRecDepth 100000 in
set_option maxHeartbeats 4000000 in
theorem ck_160 : ∀ (pc : Nat) (x : av_E), cf_160 pc = some x → cd_160.lookup pc = some x := by
  have h : ∀ q ∈ cl_160_0 ++ (cl_160_1 ++ (cl_160_2 ++ (cl_160_3 ++ (cl_160_4 ++ (cl_160_5))))), cd_160.lookup q.1 = some q.2 := av_ascQ (cd := cd_160) (by decide +kernel)
  obtain ⟨h0, h⟩ := List.forall_mem_append.mp h
  obtain ⟨h1, h⟩ := List.forall_mem_append.mp h
  obtain ⟨h2, h⟩ := List.forall_mem_append.mp h
  obtain ⟨h3, h⟩ := List.forall_mem_append.mp h
  obtain ⟨h4, h⟩ := List.forall_mem_append.mp h
  have h5 := h
  exact (av_brP (av_brP (av_lqP h0) (av_brP (av_lqP h1) (av_lqP h2))) (av_brP (av_lqP h3) (av_brP (av_lqP h4) (av_lqP h5))))
def cl_161_0 : List (Nat × av_E) := [(0, av_q (.aload_n 0)), (1, av_q (.iload_n 1)), (2, av_qc (.invokevirtual 299) 149 1 0 8), (5, av_qa (.ifCond .eq 17) 22), (8, av_q (.iload_n 2)), (9, av_qa (.ifCond .lt 13) 22)]
def cl_161_1 : List (Nat × av_E) := [(12, av_q (.iload_n 2)), (13, av_q (.aload_n 0)), (14, av_qf (.getfield 19) 8 3 2), (17, av_q (.iload_n 1)), (18, av_q (.iaload)), (19, av_qa (.if_icmp .lt 6) 25)]
def cl_161_2 : List (Nat × av_E) := [(22, av_q (.bipush (-2))), (24, av_q (.ireturn)), (25, av_q (.bipush 12)), (27, av_q (.iload_n 1)), (28, av_q (.imul)), (29, av_q (.iload_n 2))]
def cl_161_3 : List (Nat × av_E) := [(30, av_q (.iadd)), (31, av_q (.istore 4)), (33, av_q (.iload_n 3)), (34, av_q (.bipush 10)), (36, av_q (.bipush 14)), (38, av_qc (.invokestatic 176) 127 3 2 8)]
def cl_161_4 : List (Nat × av_E) := [(41, av_qa (.ifCond .eq 18) 59), (44, av_q (.aload_n 0)), (45, av_qf (.getfield 46) 8 12 2), (48, av_q (.iconst 5)), (49, av_q (.iload 4)), (51, av_q (.imul))]
def cl_161_5 : List (Nat × av_E) := [(52, av_q (.iload_n 3)), (53, av_q (.iadd)), (54, av_q (.bipush 10)), (56, av_q (.isub)), (57, av_q (.iaload)), (58, av_q (.ireturn))]
def cl_161_6 : List (Nat × av_E) := [(59, av_q (.iload_n 3)), (60, av_qw (.tableswitch 100 0 6 #[44, 52, 60, 68, 76, 84, 92]) 44), (104, av_q (.aload_n 0)), (105, av_qf (.getfield 22) 8 4 2), (108, av_q (.iload 4)), (110, av_q (.iaload))]
def cl_161_7 : List (Nat × av_E) := [(111, av_q (.ireturn)), (112, av_q (.aload_n 0)), (113, av_qf (.getfield 25) 8 5 2), (116, av_q (.iload 4)), (118, av_q (.iaload)), (119, av_q (.ireturn))]
def cl_161_8 : List (Nat × av_E) := [(120, av_q (.aload_n 0)), (121, av_qf (.getfield 28) 8 6 2), (124, av_q (.iload 4)), (126, av_q (.iaload)), (127, av_q (.ireturn)), (128, av_q (.aload_n 0))]
def cl_161_9 : List (Nat × av_E) := [(129, av_qf (.getfield 31) 8 7 2), (132, av_q (.iload 4)), (134, av_q (.iaload)), (135, av_q (.ireturn)), (136, av_q (.aload_n 0)), (137, av_qf (.getfield 34) 8 8 2)]
def cl_161_10 : List (Nat × av_E) := [(140, av_q (.iload 4)), (142, av_q (.iaload)), (143, av_q (.ireturn)), (144, av_q (.aload_n 0)), (145, av_qf (.getfield 37) 8 9 2), (148, av_q (.iload 4))]
def cl_161_11 : List (Nat × av_E) := [(150, av_q (.iaload)), (151, av_q (.ireturn)), (152, av_q (.aload_n 0)), (153, av_qf (.getfield 40) 8 10 2), (156, av_q (.iload 4)), (158, av_q (.iaload))]
def cl_161_12 : List (Nat × av_E) := [(159, av_q (.ireturn)), (160, av_q (.bipush (-2))), (162, av_q (.ireturn))]
def cf_161 : Nat → Option av_E := (av_br 58 (av_br 29 (av_br 9 (av_lq cl_161_0) (av_br 19 (av_lq cl_161_1) (av_lq cl_161_2))) (av_br 38 (av_lq cl_161_3) (av_br 51 (av_lq cl_161_4) (av_lq cl_161_5)))) (av_br 128 (av_br 110 (av_lq cl_161_6) (av_br 119 (av_lq cl_161_7) (av_lq cl_161_8))) (av_br 148 (av_br 137 (av_lq cl_161_9) (av_lq cl_161_10)) (av_br 158 (av_lq cl_161_11) (av_lq cl_161_12)))))
set_option maxRecDepth 100000 in
set_option maxHeartbeats 4000000 in
theorem ck_161 : ∀ (pc : Nat) (x : av_E), cf_161 pc = some x → cd_161.lookup pc = some x := by
  have h : ∀ q ∈ cl_161_0 ++ (cl_161_1 ++ (cl_161_2 ++ (cl_161_3 ++ (cl_161_4 ++ (cl_161_5 ++ (cl_161_6 ++ (cl_161_7 ++ (cl_161_8 ++ (cl_161_9 ++ (cl_161_10 ++ (cl_161_11 ++ (cl_161_12)))))))))))), cd_161.lookup q.1 = some q.2 := av_ascQ (cd := cd_161) (by decide +kernel)
  obtain ⟨h0, h⟩ := List.forall_mem_append.mp h
  obtain ⟨h1, h⟩ := List.forall_mem_append.mp h
  obtain ⟨h2, h⟩ := List.forall_mem_append.mp h
  obtain ⟨h3, h⟩ := List.forall_mem_append.mp h
  obtain ⟨h4, h⟩ := List.forall_mem_append.mp h
  obtain ⟨h5, h⟩ := List.forall_mem_append.mp h
  obtain ⟨h6, h⟩ := List.forall_mem_append.mp h
  obtain ⟨h7, h⟩ := List.forall_mem_append.mp h
  obtain ⟨h8, h⟩ := List.forall_mem_append.mp h
  obtain ⟨h9, h⟩ := List.forall_mem_append.mp h
  obtain ⟨h10, h⟩ := List.forall_mem_append.mp h
  obtain ⟨h11, h⟩ := List.forall_mem_append.mp h
  have h12 := h
  exact (av_brP (av_brP (av_brP (av_lqP h0) (av_brP (av_lqP h1) (av_lqP h2))) (av_brP (av_lqP h3) (av_brP (av_lqP h4) (av_lqP h5)))) (av_brP (av_brP (av_lqP h6) (av_brP (av_lqP h7) (av_lqP h8))) (av_brP (av_brP (av_lqP h9) (av_lqP h10)) (av_brP (av_lqP h11) (av_lqP h12)))))
def cl_162_0 : List (Nat × av_E) := [(0, av_q (.aload_n 0)), (1, av_q (.aload_n 0)), (2, av_qf (.getfield 19) 8 3 2), (5, av_q (.iload_n 1)), (6, av_q (.iaload)), (7, av_qf (.putfield 351) 8 27 0)]
def cl_162_1 : List (Nat × av_E) := [(10, av_q (.iconst 0)), (11, av_q (.istore_n 2)), (12, av_q (.iload_n 2)), (13, av_q (.aload_n 0)), (14, av_qf (.getfield 351) 8 27 0), (17, av_qa (.if_icmp .ge 230) 247)]
def cl_162_2 : List (Nat × av_E) := [(20, av_q (.bipush 12)), (22, av_q (.iload_n 1)), (23, av_q (.imul)), (24, av_q (.iload_n 2)), (25, av_q (.iadd)), (26, av_q (.istore_n 3))]
def cl_162_3 : List (Nat × av_E) := [(27, av_q (.aload_n 0)), (28, av_qf (.getfield 69) 8 30 2), (31, av_q (.iload_n 2)), (32, av_q (.aload_n 0)), (33, av_qf (.getfield 22) 8 4 2), (36, av_q (.iload_n 3))]
def cl_162_4 : List (Nat × av_E) := [(37, av_q (.iaload)), (38, av_q (.iastore)), (39, av_q (.aload_n 0)), (40, av_qf (.getfield 72) 8 31 2), (43, av_q (.iload_n 2)), (44, av_q (.aload_n 0))]
def cl_162_5 : List (Nat × av_E) := [(45, av_qf (.getfield 34) 8 8 2), (48, av_q (.iload_n 3)), (49, av_q (.iaload)), (50, av_q (.iastore)), (51, av_q (.aload_n 0)), (52, av_qf (.getfield 75) 8 32 2)]
def cl_162_6 : List (Nat × av_E) := [(55, av_q (.iload_n 2)), (56, av_q (.aload_n 0)), (57, av_qf (.getfield 43) 8 11 2), (60, av_q (.iload_n 3)), (61, av_q (.iaload)), (62, av_q (.iastore))]
def cl_162_7 : List (Nat × av_E) := [(63, av_q (.aload_n 0)), (64, av_qf (.getfield 78) 8 33 2), (67, av_q (.iload_n 2)), (68, av_q (.aload_n 0)), (69, av_qf (.getfield 37) 8 9 2), (72, av_q (.iload_n 3))]
def cl_162_8 : List (Nat × av_E) := [(73, av_q (.iaload)), (74, av_q (.iastore)), (75, av_q (.aload_n 0)), (76, av_qf (.getfield 81) 8 34 2), (79, av_q (.iload_n 2)), (80, av_q (.aload_n 0))]
def cl_162_9 : List (Nat × av_E) := [(81, av_qf (.getfield 31) 8 7 2), (84, av_q (.iload_n 3)), (85, av_q (.iaload)), (86, av_q (.iastore)), (87, av_q (.aload_n 0)), (88, av_qf (.getfield 84) 8 35 2)]
def cl_162_10 : List (Nat × av_E) := [(91, av_q (.iload_n 2)), (92, av_q (.aload_n 0)), (93, av_qf (.getfield 25) 8 5 2), (96, av_q (.iload_n 3)), (97, av_q (.iaload)), (98, av_q (.iastore))]
def cl_162_11 : List (Nat × av_E) := [(99, av_q (.aload_n 0)), (100, av_qf (.getfield 87) 8 36 2), (103, av_q (.iload_n 2)), (104, av_q (.aload_n 0)), (105, av_qf (.getfield 28) 8 6 2), (108, av_q (.iload_n 3))]
def cl_162_12 : List (Nat × av_E) := [(109, av_q (.iaload)), (110, av_q (.iastore)), (111, av_q (.aload_n 0)), (112, av_qf (.getfield 90) 8 37 2), (115, av_q (.iload_n 2)), (116, av_q (.aload_n 0))]
def cl_162_13 : List (Nat × av_E) := [(117, av_qf (.getfield 40) 8 10 2), (120, av_q (.iload_n 3)), (121, av_q (.iaload)), (122, av_qa (.ifCond .lt 21) 143), (125, av_q (.aload_n 0)), (126, av_qf (.getfield 130) 8 54 2)]
def cl_162_14 : List (Nat × av_E) := [(129, av_q (.aload_n 0)), (130, av_qf (.getfield 40) 8 10 2), (133, av_q (.iload_n 3)), (134, av_q (.iaload)), (135, av_q (.baload)), (136, av_qa (.ifCond .ne 7) 143)]
def cl_162_15 : List (Nat × av_E) := [(139, av_q (.iconst 1)), (140, av_qa (.goto 4) 144), (143, av_q (.iconst 0)), (144, av_q (.bastore)), (145, av_q (.iconst 0)), (146, av_q (.istore 4))]
def cl_162_16 : List (Nat × av_E) := [(148, av_q (.iload 4)), (150, av_q (.iconst 5)), (151, av_qa (.if_icmp .ge 31) 182), (154, av_q (.aload_n 0)), (155, av_qf (.getfield 94) 8 38 2), (158, av_q (.iconst 5))]
def cl_162_17 : List (Nat × av_E) := [(159, av_q (.iload_n 2)), (160, av_q (.imul)), (161, av_q (.iload 4)), (163, av_q (.iadd)), (164, av_q (.aload_n 0)), (165, av_qf (.getfield 46) 8 12 2)]
def cl_162_18 : List (Nat × av_E) := [(168, av_q (.iconst 5)), (169, av_q (.iload_n 3)), (170, av_q (.imul)), (171, av_q (.iload 4)), (173, av_q (.iadd)), (174, av_q (.iaload))]
def cl_162_19 : List (Nat × av_E) := [(175, av_q (.iastore)), (176, av_q (.iinc 4 1)), (179, av_qa (.goto (-31)) 148), (182, av_q (.iconst 0)), (183, av_q (.istore 4)), (185, av_q (.iload 4))]
def cl_162_20 : List (Nat × av_E) := [(187, av_q (.iconst 3)), (188, av_qa (.if_icmp .ge 53) 241), (191, av_q (.aload_n 0)), (192, av_qf (.getfield 97) 8 39 2), (195, av_q (.iconst 3)), (196, av_q (.iload_n 2))]
def cl_162_21 : List (Nat × av_E) := [(197, av_q (.imul)), (198, av_q (.iload 4)), (200, av_q (.iadd)), (201, av_q (.aload_n 0)), (202, av_qf (.getfield 49) 8 13 2), (205, av_q (.iconst 3))]
def cl_162_22 : List (Nat × av_E) := [(206, av_q (.iload_n 3)), (207, av_q (.imul)), (208, av_q (.iload 4)), (210, av_q (.iadd)), (211, av_q (.iaload)), (212, av_q (.iastore))]
def cl_162_23 : List (Nat × av_E) := [(213, av_q (.aload_n 0)), (214, av_qf (.getfield 100) 8 40 2), (217, av_q (.iconst 3)), (218, av_q (.iload_n 2)), (219, av_q (.imul)), (220, av_q (.iload 4))]
def cl_162_24 : List (Nat × av_E) := [(222, av_q (.iadd)), (223, av_q (.aload_n 0)), (224, av_qf (.getfield 52) 8 14 2), (227, av_q (.iconst 3)), (228, av_q (.iload_n 3)), (229, av_q (.imul))]
def cl_162_25 : List (Nat × av_E) := [(230, av_q (.iload 4)), (232, av_q (.iadd)), (233, av_q (.iaload)), (234, av_q (.iastore)), (235, av_q (.iinc 4 1)), (238, av_qa (.goto (-53)) 185)]
def cl_162_26 : List (Nat × av_E) := [(241, av_q (.iinc 2 1)), (244, av_qa (.goto (-232)) 12), (247, av_q (.return_))]
def cf_162 : Nat → Option av_E := (av_br 116 (av_br 52 (av_br 26 (av_br 7 (av_lq cl_162_0) (av_br 17 (av_lq cl_162_1) (av_lq cl_162_2))) (av_br 36 (av_lq cl_162_3) (av_br 44 (av_lq cl_162_4) (av_lq cl_162_5)))) (av_br 80 (av_br 62 (av_lq cl_162_6) (av_br 72 (av_lq cl_162_7) (av_lq cl_162_8))) (av_br 98 (av_br 88 (av_lq cl_162_9) (av_lq cl_162_10)) (av_br 108 (av_lq cl_162_11) (av_lq cl_162_12))))) (av_br 185 (av_br 146 (av_br 126 (av_lq cl_162_13) (av_br 136 (av_lq cl_162_14) (av_lq cl_162_15))) (av_br 165 (av_br 158 (av_lq cl_162_16) (av_lq cl_162_17)) (av_br 174 (av_lq cl_162_18) (av_lq cl_162_19)))) (av_br 212 (av_br 196 (av_lq cl_162_20) (av_br 205 (av_lq cl_162_21) (av_lq cl_162_22))) (av_br 229 (av_br 220 (av_lq cl_162_23) (av_lq cl_162_24)) (av_br 238 (av_lq cl_162_25) (av_lq cl_162_26))))))
set_option maxRecDepth 100000 in
set_option maxHeartbeats 4000000 in
theorem ck_162 : ∀ (pc : Nat) (x : av_E), cf_162 pc = some x → cd_162.lookup pc = some x := by
  have h : ∀ q ∈ cl_162_0 ++ (cl_162_1 ++ (cl_162_2 ++ (cl_162_3 ++ (cl_162_4 ++ (cl_162_5 ++ (cl_162_6 ++ (cl_162_7 ++ (cl_162_8 ++ (cl_162_9 ++ (cl_162_10 ++ (cl_162_11 ++ (cl_162_12 ++ (cl_162_13 ++ (cl_162_14 ++ (cl_162_15 ++ (cl_162_16 ++ (cl_162_17 ++ (cl_162_18 ++ (cl_162_19 ++ (cl_162_20 ++ (cl_162_21 ++ (cl_162_22 ++ (cl_162_23 ++ (cl_162_24 ++ (cl_162_25 ++ (cl_162_26)))))))))))))))))))))))))), cd_162.lookup q.1 = some q.2 := av_ascQ (cd := cd_162) (by decide +kernel)
  obtain ⟨h0, h⟩ := List.forall_mem_append.mp h
  obtain ⟨h1, h⟩ := List.forall_mem_append.mp h
  obtain ⟨h2, h⟩ := List.forall_mem_append.mp h
  obtain ⟨h3, h⟩ := List.forall_mem_append.mp h
  obtain ⟨h4, h⟩ := List.forall_mem_append.mp h
  obtain ⟨h5, h⟩ := List.forall_mem_append.mp h
  obtain ⟨h6, h⟩ := List.forall_mem_append.mp h
  obtain ⟨h7, h⟩ := List.forall_mem_append.mp h
  obtain ⟨h8, h⟩ := List.forall_mem_append.mp h
  obtain ⟨h9, h⟩ := List.forall_mem_append.mp h
  obtain ⟨h10, h⟩ := List.forall_mem_append.mp h
  obtain ⟨h11, h⟩ := List.forall_mem_append.mp h
  obtain ⟨h12, h⟩ := List.forall_mem_append.mp h
  obtain ⟨h13, h⟩ := List.forall_mem_append.mp h
  obtain ⟨h14, h⟩ := List.forall_mem_append.mp h
  obtain ⟨h15, h⟩ := List.forall_mem_append.mp h
  obtain ⟨h16, h⟩ := List.forall_mem_append.mp h
  obtain ⟨h17, h⟩ := List.forall_mem_append.mp h
  obtain ⟨h18, h⟩ := List.forall_mem_append.mp h
  obtain ⟨h19, h⟩ := List.forall_mem_append.mp h
  obtain ⟨h20, h⟩ := List.forall_mem_append.mp h
  obtain ⟨h21, h⟩ := List.forall_mem_append.mp h
  obtain ⟨h22, h⟩ := List.forall_mem_append.mp h
  obtain ⟨h23, h⟩ := List.forall_mem_append.mp h
  obtain ⟨h24, h⟩ := List.forall_mem_append.mp h
  obtain ⟨h25, h⟩ := List.forall_mem_append.mp h
  have h26 := h
  exact (av_brP (av_brP (av_brP (av_brP (av_lqP h0) (av_brP (av_lqP h1) (av_lqP h2))) (av_brP (av_lqP h3) (av_brP (av_lqP h4) (av_lqP h5)))) (av_brP (av_brP (av_lqP h6) (av_brP (av_lqP h7) (av_lqP h8))) (av_brP (av_brP (av_lqP h9) (av_lqP h10)) (av_brP (av_lqP h11) (av_lqP h12))))) (av_brP (av_brP (av_brP (av_lqP h13) (av_brP (av_lqP h14) (av_lqP h15))) (av_brP (av_brP (av_lqP h16) (av_lqP h17)) (av_brP (av_lqP h18) (av_lqP h19)))) (av_brP (av_brP (av_lqP h20) (av_brP (av_lqP h21) (av_lqP h22))) (av_brP (av_brP (av_lqP h23) (av_lqP h24)) (av_brP (av_lqP h25) (av_lqP h26))))))
def cl_163_0 : List (Nat × av_E) := [(0, av_q (.aload_n 0)), (1, av_q (.iconst 0)), (2, av_qf (.putfield 354) 8 28 0), (5, av_q (.aload_n 0)), (6, av_q (.iconst 1)), (7, av_qf (.putfield 357) 8 29 0)]
def cl_163_1 : List (Nat × av_E) := [(10, av_q (.iconst 0)), (11, av_q (.istore_n 1)), (12, av_q (.iload_n 1)), (13, av_q (.aload_n 0)), (14, av_qf (.getfield 351) 8 27 0), (17, av_qa (.if_icmp .ge 139) 156)]
def cl_163_2 : List (Nat × av_E) := [(20, av_q (.iconst 0)), (21, av_q (.istore_n 2)), (22, av_q (.iload_n 2)), (23, av_q (.iconst 4)), (24, av_qa (.if_icmp .ge 126) 150), (27, av_q (.iload_n 2))]
def cl_163_3 : List (Nat × av_E) := [(28, av_q (.iconst 3)), (29, av_qa (.if_icmp .ge 29) 58), (32, av_q (.aload_n 0)), (33, av_qf (.getfield 100) 8 40 2), (36, av_q (.iconst 3)), (37, av_q (.iload_n 1))]
def cl_163_4 : List (Nat × av_E) := [(38, av_q (.imul)), (39, av_q (.iload_n 2)), (40, av_q (.iadd)), (41, av_q (.iaload)), (42, av_q (.aload_n 0)), (43, av_qf (.getfield 97) 8 39 2)]
def cl_163_5 : List (Nat × av_E) := [(46, av_q (.iconst 3)), (47, av_q (.iload_n 1)), (48, av_q (.imul)), (49, av_q (.iload_n 2)), (50, av_q (.iadd)), (51, av_q (.iaload))]
def cl_163_6 : List (Nat × av_E) := [(52, av_q (.isub)), (53, av_q (.iconst 1)), (54, av_q (.iadd)), (55, av_qa (.goto 18) 73), (58, av_q (.aload_n 0)), (59, av_qf (.getfield 75) 8 32 2)]
def cl_163_7 : List (Nat × av_E) := [(62, av_q (.iload_n 1)), (63, av_q (.iaload)), (64, av_q (.iconst 1)), (65, av_qa (.if_icmp .ne 7) 72), (68, av_q (.iconst 2)), (69, av_qa (.goto 4) 73)]
def cl_163_8 : List (Nat × av_E) := [(72, av_q (.iconst 1)), (73, av_q (.istore_n 3)), (74, av_q (.iload_n 3)), (75, av_q (.iconst 2)), (76, av_qa (.if_icmp .ge 6) 82), (79, av_qa (.goto 65) 144)]
def cl_163_9 : List (Nat × av_E) := [(82, av_q (.aload_n 0)), (83, av_qf (.getfield 103) 8 41 2), (86, av_q (.aload_n 0)), (87, av_qf (.getfield 354) 8 28 0), (90, av_q (.iconst 4)), (91, av_q (.iload_n 1))]
def cl_163_10 : List (Nat × av_E) := [(92, av_q (.imul)), (93, av_q (.iload_n 2)), (94, av_q (.iadd)), (95, av_q (.iastore)), (96, av_q (.aload_n 0)), (97, av_qf (.getfield 106) 8 42 2)]
def cl_163_11 : List (Nat × av_E) := [(100, av_q (.aload_n 0)), (101, av_qf (.getfield 354) 8 28 0), (104, av_q (.iload_n 3)), (105, av_q (.iastore)), (106, av_q (.aload_n 0)), (107, av_q (.dup))]
def cl_163_12 : List (Nat × av_E) := [(108, av_qf (.getfield 354) 8 28 0), (111, av_q (.iconst 1)), (112, av_q (.iadd)), (113, av_qf (.putfield 354) 8 28 0), (116, av_q (.aload_n 0)), (117, av_q (.aload_n 0))]
def cl_163_13 : List (Nat × av_E) := [(118, av_qf (.getfield 357) 8 29 0), (121, av_q (.iload_n 3)), (122, av_q (.imul)), (123, av_q (.sipush 1024)), (126, av_qa (.if_icmp .le 9) 135), (129, av_q (.sipush 1025))]
def cl_163_14 : List (Nat × av_E) := [(132, av_qa (.goto 9) 141), (135, av_q (.aload_n 0)), (136, av_qf (.getfield 357) 8 29 0), (139, av_q (.iload_n 3)), (140, av_q (.imul)), (141, av_qf (.putfield 357) 8 29 0)]
def cl_163_15 : List (Nat × av_E) := [(144, av_q (.iinc 2 1)), (147, av_qa (.goto (-125)) 22), (150, av_q (.iinc 1 1)), (153, av_qa (.goto (-141)) 12), (156, av_q (.return_))]
def cf_163 : Nat → Option av_E := (av_br 69 (av_br 37 (av_br 17 (av_br 7 (av_lq cl_163_0) (av_lq cl_163_1)) (av_br 27 (av_lq cl_163_2) (av_lq cl_163_3))) (av_br 51 (av_br 43 (av_lq cl_163_4) (av_lq cl_163_5)) (av_br 59 (av_lq cl_163_6) (av_lq cl_163_7)))) (av_br 107 (av_br 91 (av_br 79 (av_lq cl_163_8) (av_lq cl_163_9)) (av_br 97 (av_lq cl_163_10) (av_lq cl_163_11))) (av_br 129 (av_br 117 (av_lq cl_163_12) (av_lq cl_163_13)) (av_br 141 (av_lq cl_163_14) (av_lq cl_163_15)))))
set_option maxRecDepth 100000 in
set_option maxHeartbeats 4000000 in
theorem ck_163 : ∀ (pc : Nat) (x : av_E), cf_163 pc = some x → cd_163.lookup pc = some x := by
  have h : ∀ q ∈ cl_163_0 ++ (cl_163_1 ++ (cl_163_2 ++ (cl_163_3 ++ (cl_163_4 ++ (cl_163_5 ++ (cl_163_6 ++ (cl_163_7 ++ (cl_163_8 ++ (cl_163_9 ++ (cl_163_10 ++ (cl_163_11 ++ (cl_163_12 ++ (cl_163_13 ++ (cl_163_14 ++ (cl_163_15))))))))))))))), cd_163.lookup q.1 = some q.2 := av_ascQ (cd := cd_163) (by decide +kernel)
  obtain ⟨h0, h⟩ := List.forall_mem_append.mp h
  obtain ⟨h1, h⟩ := List.forall_mem_append.mp h
  obtain ⟨h2, h⟩ := List.forall_mem_append.mp h
  obtain ⟨h3, h⟩ := List.forall_mem_append.mp h
  obtain ⟨h4, h⟩ := List.forall_mem_append.mp h
  obtain ⟨h5, h⟩ := List.forall_mem_append.mp h
  obtain ⟨h6, h⟩ := List.forall_mem_append.mp h
  obtain ⟨h7, h⟩ := List.forall_mem_append.mp h
  obtain ⟨h8, h⟩ := List.forall_mem_append.mp h
  obtain ⟨h9, h⟩ := List.forall_mem_append.mp h
  obtain ⟨h10, h⟩ := List.forall_mem_append.mp h
  obtain ⟨h11, h⟩ := List.forall_mem_append.mp h
  obtain ⟨h12, h⟩ := List.forall_mem_append.mp h
  obtain ⟨h13, h⟩ := List.forall_mem_append.mp h
  obtain ⟨h14, h⟩ := List.forall_mem_append.mp h
  have h15 := h
  exact (av_brP (av_brP (av_brP (av_brP (av_lqP h0) (av_lqP h1)) (av_brP (av_lqP h2) (av_lqP h3))) (av_brP (av_brP (av_lqP h4) (av_lqP h5)) (av_brP (av_lqP h6) (av_lqP h7)))) (av_brP (av_brP (av_brP (av_lqP h8) (av_lqP h9)) (av_brP (av_lqP h10) (av_lqP h11))) (av_brP (av_brP (av_lqP h12) (av_lqP h13)) (av_brP (av_lqP h14) (av_lqP h15)))))
def cl_164_0 : List (Nat × av_E) := [(0, av_q (.aload_n 0)), (1, av_qf (.getfield 357) 8 29 0), (4, av_q (.sipush 1024)), (7, av_qa (.if_icmp .gt 7) 14), (10, av_q (.iconst 1)), (11, av_qa (.goto 4) 15)]
def cl_164_1 : List (Nat × av_E) := [(14, av_q (.iconst 0)), (15, av_qa (.ireturn) 1)]
def cf_164 : Nat → Option av_E := (av_br 11 (av_lq cl_164_0) (av_lq cl_164_1))
set_option maxRecDepth 100000 in
set_option maxHeartbeats 4000000 in
theorem ck_164 : ∀ (pc : Nat) (x : av_E), cf_164 pc = some x → cd_164.lookup pc = some x := by
  have h : ∀ q ∈ cl_164_0 ++ (cl_164_1), cd_164.lookup q.1 = some q.2 := av_ascQ (cd := cd_164) (by decide +kernel)
  obtain ⟨h0, h⟩ := List.forall_mem_append.mp h
  have h1 := h
  exact (av_brP (av_lqP h0) (av_lqP h1))
def cl_165_0 : List (Nat × av_E) := [(0, av_q (.iconst 0)), (1, av_q (.istore_n 2)), (2, av_q (.iload_n 2)), (3, av_q (.bipush 48)), (5, av_qa (.if_icmp .ge 16) 21), (8, av_q (.aload_n 0))]
def cl_165_1 : List (Nat × av_E) := [(9, av_qf (.getfield 118) 8 46 2), (12, av_q (.iload_n 2)), (13, av_q (.iconst 0)), (14, av_q (.iastore)), (15, av_q (.iinc 2 1)), (18, av_qa (.goto (-16)) 2)]
def cl_165_2 : List (Nat × av_E) := [(21, av_q (.iload_n 1)), (22, av_q (.istore_n 2)), (23, av_q (.iconst 0)), (24, av_q (.istore_n 3)), (25, av_q (.iload_n 3)), (26, av_q (.aload_n 0))]
def cl_165_3 : List (Nat × av_E) := [(27, av_qf (.getfield 354) 8 28 0), (30, av_qa (.if_icmp .ge 37) 67), (33, av_q (.aload_n 0)), (34, av_qf (.getfield 118) 8 46 2), (37, av_q (.aload_n 0)), (38, av_qf (.getfield 103) 8 41 2)]
def cl_165_4 : List (Nat × av_E) := [(41, av_q (.iload_n 3)), (42, av_q (.iaload)), (43, av_q (.iload_n 2)), (44, av_q (.aload_n 0)), (45, av_qf (.getfield 106) 8 42 2), (48, av_q (.iload_n 3))]
def cl_165_5 : List (Nat × av_E) := [(49, av_q (.iaload)), (50, av_q (.irem)), (51, av_q (.iastore)), (52, av_q (.iload_n 2)), (53, av_q (.aload_n 0)), (54, av_qf (.getfield 106) 8 42 2)]
def cl_165_6 : List (Nat × av_E) := [(57, av_q (.iload_n 3)), (58, av_q (.iaload)), (59, av_q (.idiv)), (60, av_q (.istore_n 2)), (61, av_q (.iinc 3 1)), (64, av_qa (.goto (-39)) 25)]
def cl_165_7 : List (Nat × av_E) := [(67, av_q (.iconst 0)), (68, av_q (.istore_n 3)), (69, av_q (.iload_n 3)), (70, av_q (.aload_n 0)), (71, av_qf (.getfield 351) 8 27 0), (74, av_qa (.if_icmp .ge 149) 223)]
def cl_165_8 : List (Nat × av_E) := [(77, av_q (.aload_n 0)), (78, av_qf (.getfield 75) 8 32 2), (81, av_q (.iload_n 3)), (82, av_q (.iaload)), (83, av_q (.iconst 2)), (84, av_qa (.if_icmp .eq 17) 101)]
def cl_165_9 : List (Nat × av_E) := [(87, av_q (.aload_n 0)), (88, av_qf (.getfield 118) 8 46 2), (91, av_q (.iconst 4)), (92, av_q (.iload_n 3)), (93, av_q (.imul)), (94, av_q (.iconst 3))]
def cl_165_10 : List (Nat × av_E) := [(95, av_q (.iadd)), (96, av_q (.iaload)), (97, av_q (.iconst 1)), (98, av_qa (.if_icmp .ne 7) 105), (101, av_q (.iconst 1)), (102, av_qa (.goto 4) 106)]
def cl_165_11 : List (Nat × av_E) := [(105, av_q (.iconst 0)), (106, av_q (.istore 4)), (108, av_q (.aload_n 0)), (109, av_qf (.getfield 109) 8 43 2), (112, av_q (.iload_n 3)), (113, av_q (.aload_n 0))]
def cl_165_12 : List (Nat × av_E) := [(114, av_qf (.getfield 97) 8 39 2), (117, av_q (.iconst 3)), (118, av_q (.iload_n 3)), (119, av_q (.imul)), (120, av_q (.iaload)), (121, av_q (.aload_n 0))]
def cl_165_13 : List (Nat × av_E) := [(122, av_qf (.getfield 118) 8 46 2), (125, av_q (.iconst 4)), (126, av_q (.iload_n 3)), (127, av_q (.imul)), (128, av_q (.iaload)), (129, av_q (.iadd))]
def cl_165_14 : List (Nat × av_E) := [(130, av_q (.iastore)), (131, av_q (.aload_n 0)), (132, av_qf (.getfield 112) 8 44 2), (135, av_q (.iload_n 3)), (136, av_q (.iload 4)), (138, av_qa (.ifCond .eq 7) 145)]
def cl_165_15 : List (Nat × av_E) := [(141, av_q (.iconst (-1))), (142, av_qa (.goto 31) 173), (145, av_q (.aload_n 0)), (146, av_qf (.getfield 109) 8 43 2), (149, av_q (.iload_n 3)), (150, av_q (.iaload))]
def cl_165_16 : List (Nat × av_E) := [(151, av_q (.aload_n 0)), (152, av_qf (.getfield 97) 8 39 2), (155, av_q (.iconst 3)), (156, av_q (.iload_n 3)), (157, av_q (.imul)), (158, av_q (.iconst 1))]
def cl_165_17 : List (Nat × av_E) := [(159, av_q (.iadd)), (160, av_q (.iaload)), (161, av_q (.iadd)), (162, av_q (.aload_n 0)), (163, av_qf (.getfield 118) 8 46 2), (166, av_q (.iconst 4))]
def cl_165_18 : List (Nat × av_E) := [(167, av_q (.iload_n 3)), (168, av_q (.imul)), (169, av_q (.iconst 1)), (170, av_q (.iadd)), (171, av_q (.iaload)), (172, av_q (.iadd))]
def cl_165_19 : List (Nat × av_E) := [(173, av_q (.iastore)), (174, av_q (.aload_n 0)), (175, av_qf (.getfield 115) 8 45 2), (178, av_q (.iload_n 3)), (179, av_q (.iload 4)), (181, av_qa (.ifCond .eq 7) 188)]
def cl_165_20 : List (Nat × av_E) := [(184, av_q (.iconst (-1))), (185, av_qa (.goto 31) 216), (188, av_q (.aload_n 0)), (189, av_qf (.getfield 112) 8 44 2), (192, av_q (.iload_n 3)), (193, av_q (.iaload))]
def cl_165_21 : List (Nat × av_E) := [(194, av_q (.aload_n 0)), (195, av_qf (.getfield 97) 8 39 2), (198, av_q (.iconst 3)), (199, av_q (.iload_n 3)), (200, av_q (.imul)), (201, av_q (.iconst 2))]
def cl_165_22 : List (Nat × av_E) := [(202, av_q (.iadd)), (203, av_q (.iaload)), (204, av_q (.iadd)), (205, av_q (.aload_n 0)), (206, av_qf (.getfield 118) 8 46 2), (209, av_q (.iconst 4))]
def cl_165_23 : List (Nat × av_E) := [(210, av_q (.iload_n 3)), (211, av_q (.imul)), (212, av_q (.iconst 2)), (213, av_q (.iadd)), (214, av_q (.iaload)), (215, av_q (.iadd))]
def cl_165_24 : List (Nat × av_E) := [(216, av_q (.iastore)), (217, av_q (.iinc 3 1)), (220, av_qa (.goto (-151)) 69), (223, av_q (.return_))]
def cf_165 : Nat → Option av_E := (av_br 113 (av_br 54 (av_br 26 (av_br 8 (av_lq cl_165_0) (av_br 18 (av_lq cl_165_1) (av_lq cl_165_2))) (av_br 38 (av_lq cl_165_3) (av_br 48 (av_lq cl_165_4) (av_lq cl_165_5)))) (av_br 84 (av_br 64 (av_lq cl_165_6) (av_br 74 (av_lq cl_165_7) (av_lq cl_165_8))) (av_br 94 (av_lq cl_165_9) (av_br 102 (av_lq cl_165_10) (av_lq cl_165_11))))) (av_br 166 (av_br 138 (av_br 121 (av_lq cl_165_12) (av_br 129 (av_lq cl_165_13) (av_lq cl_165_14))) (av_br 150 (av_lq cl_165_15) (av_br 158 (av_lq cl_165_16) (av_lq cl_165_17)))) (av_br 193 (av_br 172 (av_lq cl_165_18) (av_br 181 (av_lq cl_165_19) (av_lq cl_165_20))) (av_br 209 (av_br 201 (av_lq cl_165_21) (av_lq cl_165_22)) (av_br 215 (av_lq cl_165_23) (av_lq cl_165_24))))))
set_option maxRecDepth 100000 in
set_option maxHeartbeats 4000000 in
theorem ck_165 : ∀ (pc : Nat) (x : av_E), cf_165 pc = some x → cd_165.lookup pc = some x := by
  have h : ∀ q ∈ cl_165_0 ++ (cl_165_1 ++ (cl_165_2 ++ (cl_165_3 ++ (cl_165_4 ++ (cl_165_5 ++ (cl_165_6 ++ (cl_165_7 ++ (cl_165_8 ++ (cl_165_9 ++ (cl_165_10 ++ (cl_165_11 ++ (cl_165_12 ++ (cl_165_13 ++ (cl_165_14 ++ (cl_165_15 ++ (cl_165_16 ++ (cl_165_17 ++ (cl_165_18 ++ (cl_165_19 ++ (cl_165_20 ++ (cl_165_21 ++ (cl_165_22 ++ (cl_165_23 ++ (cl_165_24)))))))))))))))))))))))), cd_165.lookup q.1 = some q.2 := av_ascQ (cd := cd_165) (by decide +kernel)
  obtain ⟨h0, h⟩ := List.forall_mem_append.mp h
  obtain ⟨h1, h⟩ := List.forall_mem_append.mp h
  obtain ⟨h2, h⟩ := List.forall_mem_append.mp h
  obtain ⟨h3, h⟩ := List.forall_mem_append.mp h
  obtain ⟨h4, h⟩ := List.forall_mem_append.mp h
  obtain ⟨h5, h⟩ := List.forall_mem_append.mp h
  obtain ⟨h6, h⟩ := List.forall_mem_append.mp h
  obtain ⟨h7, h⟩ := List.forall_mem_append.mp h
  obtain ⟨h8, h⟩ := List.forall_mem_append.mp h
  obtain ⟨h9, h⟩ := List.forall_mem_append.mp h
  obtain ⟨h10, h⟩ := List.forall_mem_append.mp h
  obtain ⟨h11, h⟩ := List.forall_mem_append.mp h
  obtain ⟨h12, h⟩ := List.forall_mem_append.mp h
  obtain ⟨h13, h⟩ := List.forall_mem_append.mp h
  obtain ⟨h14, h⟩ := List.forall_mem_append.mp h
  obtain ⟨h15, h⟩ := List.forall_mem_append.mp h
  obtain ⟨h16, h⟩ := List.forall_mem_append.mp h
  obtain ⟨h17, h⟩ := List.forall_mem_append.mp h
  obtain ⟨h18, h⟩ := List.forall_mem_append.mp h
  obtain ⟨h19, h⟩ := List.forall_mem_append.mp h
  obtain ⟨h20, h⟩ := List.forall_mem_append.mp h
  obtain ⟨h21, h⟩ := List.forall_mem_append.mp h
  obtain ⟨h22, h⟩ := List.forall_mem_append.mp h
  obtain ⟨h23, h⟩ := List.forall_mem_append.mp h
  have h24 := h
  exact (av_brP (av_brP (av_brP (av_brP (av_lqP h0) (av_brP (av_lqP h1) (av_lqP h2))) (av_brP (av_lqP h3) (av_brP (av_lqP h4) (av_lqP h5)))) (av_brP (av_brP (av_lqP h6) (av_brP (av_lqP h7) (av_lqP h8))) (av_brP (av_lqP h9) (av_brP (av_lqP h10) (av_lqP h11))))) (av_brP (av_brP (av_brP (av_lqP h12) (av_brP (av_lqP h13) (av_lqP h14))) (av_brP (av_lqP h15) (av_brP (av_lqP h16) (av_lqP h17)))) (av_brP (av_brP (av_lqP h18) (av_brP (av_lqP h19) (av_lqP h20))) (av_brP (av_brP (av_lqP h21) (av_lqP h22)) (av_brP (av_lqP h23) (av_lqP h24))))))
def cl_166_0 : List (Nat × av_E) := [(0, av_q (.iload_n 2)), (1, av_qa (.ifCond .ne 12) 13), (4, av_q (.aload_n 0)), (5, av_qf (.getfield 109) 8 43 2), (8, av_q (.iload_n 1)), (9, av_q (.iaload))]
def cl_166_1 : List (Nat × av_E) := [(10, av_qa (.goto 23) 33), (13, av_q (.iload_n 2)), (14, av_q (.iconst 1)), (15, av_qa (.if_icmp .ne 12) 27), (18, av_q (.aload_n 0)), (19, av_qf (.getfield 112) 8 44 2)]
def cl_166_2 : List (Nat × av_E) := [(22, av_q (.iload_n 1)), (23, av_q (.iaload)), (24, av_qa (.goto 9) 33), (27, av_q (.aload_n 0)), (28, av_qf (.getfield 115) 8 45 2), (31, av_q (.iload_n 1))]
def cl_166_3 : List (Nat × av_E) := [(32, av_q (.iaload)), (33, av_q (.ireturn))]
def cf_166 : Nat → Option av_E := (av_br 19 (av_br 9 (av_lq cl_166_0) (av_lq cl_166_1)) (av_br 31 (av_lq cl_166_2) (av_lq cl_166_3)))
set_option maxRecDepth 100000 in
set_option maxHeartbeats 4000000 in
theorem ck_166 : ∀ (pc : Nat) (x : av_E), cf_166 pc = some x → cd_166.lookup pc = some x := by
  have h : ∀ q ∈ cl_166_0 ++ (cl_166_1 ++ (cl_166_2 ++ (cl_166_3))), cd_166.lookup q.1 = some q.2 := av_ascQ (cd := cd_166) (by decide +kernel)
  obtain ⟨h0, h⟩ := List.forall_mem_append.mp h
  obtain ⟨h1, h⟩ := List.forall_mem_append.mp h
  obtain ⟨h2, h⟩ := List.forall_mem_append.mp h
  have h3 := h
  exact (av_brP (av_brP (av_lqP h0) (av_lqP h1)) (av_brP (av_lqP h2) (av_lqP h3)))
def cl_167_0 : List (Nat × av_E) := [(0, av_q (.aload_n 0)), (1, av_qf (.getfield 69) 8 30 2), (4, av_q (.iload_n 1)), (5, av_q (.iaload)), (6, av_q (.iconst 3)), (7, av_qa (.if_icmp .ne 13) 20)]
def cl_167_1 : List (Nat × av_E) := [(10, av_q (.aload_n 0)), (11, av_qf (.getfield 66) 8 26 2), (14, av_q (.bipush 9)), (16, av_q (.iaload)), (17, av_qa (.ifCond .ne 5) 22), (20, av_q (.iconst 0))]
def cl_167_2 : List (Nat × av_E) := [(21, av_qa (.ireturn) 1), (22, av_q (.iconst 5)), (23, av_q (.iload_n 1)), (24, av_q (.imul)), (25, av_q (.istore_n 2)), (26, av_q (.aload_n 0))]
def cl_167_3 : List (Nat × av_E) := [(27, av_qf (.getfield 94) 8 38 2), (30, av_q (.iload_n 2)), (31, av_q (.iaload)), (32, av_qa (.ifCond .ge 29) 61), (35, av_q (.aload_n 0)), (36, av_qf (.getfield 94) 8 38 2)]
def cl_167_4 : List (Nat × av_E) := [(39, av_q (.iload_n 2)), (40, av_q (.iconst 1)), (41, av_q (.iadd)), (42, av_q (.iaload)), (43, av_qa (.ifCond .ge 18) 61), (46, av_q (.aload_n 0))]
def cl_167_5 : List (Nat × av_E) := [(47, av_qf (.getfield 94) 8 38 2), (50, av_q (.iload_n 2)), (51, av_q (.iconst 2)), (52, av_q (.iadd)), (53, av_q (.iaload)), (54, av_qa (.ifCond .ge 7) 61)]
def cl_167_6 : List (Nat × av_E) := [(57, av_q (.iconst 1)), (58, av_qa (.goto 4) 62), (61, av_q (.iconst 0)), (62, av_qa (.ireturn) 1)]
def cf_167 : Nat → Option av_E := (av_br 26 (av_br 7 (av_lq cl_167_0) (av_br 20 (av_lq cl_167_1) (av_lq cl_167_2))) (av_br 46 (av_br 36 (av_lq cl_167_3) (av_lq cl_167_4)) (av_br 54 (av_lq cl_167_5) (av_lq cl_167_6))))
set_option maxRecDepth 100000 in
set_option maxHeartbeats 4000000 in
theorem ck_167 : ∀ (pc : Nat) (x : av_E), cf_167 pc = some x → cd_167.lookup pc = some x := by
  have h : ∀ q ∈ cl_167_0 ++ (cl_167_1 ++ (cl_167_2 ++ (cl_167_3 ++ (cl_167_4 ++ (cl_167_5 ++ (cl_167_6)))))), cd_167.lookup q.1 = some q.2 := av_ascQ (cd := cd_167) (by decide +kernel)
  obtain ⟨h0, h⟩ := List.forall_mem_append.mp h
  obtain ⟨h1, h⟩ := List.forall_mem_append.mp h
  obtain ⟨h2, h⟩ := List.forall_mem_append.mp h
  obtain ⟨h3, h⟩ := List.forall_mem_append.mp h
  obtain ⟨h4, h⟩ := List.forall_mem_append.mp h
  obtain ⟨h5, h⟩ := List.forall_mem_append.mp h
  have h6 := h
  exact (av_brP (av_brP (av_lqP h0) (av_brP (av_lqP h1) (av_lqP h2))) (av_brP (av_brP (av_lqP h3) (av_lqP h4)) (av_brP (av_lqP h5) (av_lqP h6))))
def cl_168_0 : List (Nat × av_E) := [(0, av_q (.aload_n 0)), (1, av_qf (.getfield 69) 8 30 2), (4, av_q (.iload_n 1)), (5, av_q (.iaload)), (6, av_qa (.ifCond .eq 21) 27), (9, av_q (.aload_n 0))]
def cl_168_1 : List (Nat × av_E) := [(10, av_qf (.getfield 69) 8 30 2), (13, av_q (.iload_n 1)), (14, av_q (.iaload)), (15, av_q (.iconst 3)), (16, av_qa (.if_icmp .ne 15) 31), (19, av_q (.aload_n 0))]
def cl_168_2 : List (Nat × av_E) := [(20, av_q (.iload_n 1)), (21, av_qc (.invokevirtual 360) 167 1 0 8), (24, av_qa (.ifCond .ne 7) 31), (27, av_q (.iconst 1)), (28, av_qa (.goto 4) 32), (31, av_q (.iconst 0))]
def cl_168_3 : List (Nat × av_E) := [(32, av_qa (.ireturn) 1)]
def cf_168 : Nat → Option av_E := (av_br 19 (av_br 9 (av_lq cl_168_0) (av_lq cl_168_1)) (av_br 31 (av_lq cl_168_2) (av_lq cl_168_3)))
set_option maxRecDepth 100000 in
set_option maxHeartbeats 4000000 in
theorem ck_168 : ∀ (pc : Nat) (x : av_E), cf_168 pc = some x → cd_168.lookup pc = some x := by
  have h : ∀ q ∈ cl_168_0 ++ (cl_168_1 ++ (cl_168_2 ++ (cl_168_3))), cd_168.lookup q.1 = some q.2 := av_ascQ (cd := cd_168) (by decide +kernel)
  obtain ⟨h0, h⟩ := List.forall_mem_append.mp h
  obtain ⟨h1, h⟩ := List.forall_mem_append.mp h
  obtain ⟨h2, h⟩ := List.forall_mem_append.mp h
  have h3 := h
  exact (av_brP (av_brP (av_lqP h0) (av_lqP h1)) (av_brP (av_lqP h2) (av_lqP h3)))
def cl_169_0 : List (Nat × av_E) := [(0, av_q (.aload_n 0)), (1, av_qf (.getfield 69) 8 30 2), (4, av_q (.iload_n 1)), (5, av_q (.iaload)), (6, av_q (.iconst 4)), (7, av_qa (.if_icmp .eq 21) 28)]
def cl_169_1 : List (Nat × av_E) := [(10, av_q (.aload_n 0)), (11, av_qf (.getfield 69) 8 30 2), (14, av_q (.iload_n 1)), (15, av_q (.iaload)), (16, av_q (.iconst 3)), (17, av_qa (.if_icmp .ne 15) 32)]
def cl_169_2 : List (Nat × av_E) := [(20, av_q (.aload_n 0)), (21, av_q (.iload_n 1)), (22, av_qc (.invokevirtual 360) 167 1 0 8), (25, av_qa (.ifCond .ne 7) 32), (28, av_q (.iconst 1)), (29, av_qa (.goto 4) 33)]
def cl_169_3 : List (Nat × av_E) := [(32, av_q (.iconst 0)), (33, av_qa (.ireturn) 1)]
def cf_169 : Nat → Option av_E := (av_br 17 (av_br 7 (av_lq cl_169_0) (av_lq cl_169_1)) (av_br 29 (av_lq cl_169_2) (av_lq cl_169_3)))
set_option maxRecDepth 100000 in
set_option maxHeartbeats 4000000 in
theorem ck_169 : ∀ (pc : Nat) (x : av_E), cf_169 pc = some x → cd_169.lookup pc = some x := by
  have h : ∀ q ∈ cl_169_0 ++ (cl_169_1 ++ (cl_169_2 ++ (cl_169_3))), cd_169.lookup q.1 = some q.2 := av_ascQ (cd := cd_169) (by decide +kernel)
  obtain ⟨h0, h⟩ := List.forall_mem_append.mp h
  obtain ⟨h1, h⟩ := List.forall_mem_append.mp h
  obtain ⟨h2, h⟩ := List.forall_mem_append.mp h
  have h3 := h
  exact (av_brP (av_brP (av_lqP h0) (av_lqP h1)) (av_brP (av_lqP h2) (av_lqP h3)))
def cl_170_0 : List (Nat × av_E) := [(0, av_q (.aload_n 0)), (1, av_qf (.getfield 69) 8 30 2), (4, av_q (.iload_n 1)), (5, av_q (.iaload)), (6, av_q (.iconst 2)), (7, av_qa (.if_icmp .eq 33) 40)]
def cl_170_1 : List (Nat × av_E) := [(10, av_q (.aload_n 0)), (11, av_q (.iload_n 1)), (12, av_qc (.invokevirtual 360) 167 1 0 8), (15, av_qa (.ifCond .ne 25) 40), (18, av_q (.aload_n 0)), (19, av_qf (.getfield 69) 8 30 2)]
def cl_170_2 : List (Nat × av_E) := [(22, av_q (.iload_n 1)), (23, av_q (.iaload)), (24, av_q (.bipush 6)), (26, av_qa (.if_icmp .ne 18) 44), (29, av_q (.aload_n 0)), (30, av_qf (.getfield 66) 8 26 2)]
def cl_170_3 : List (Nat × av_E) := [(33, av_q (.bipush 11)), (35, av_q (.iaload)), (36, av_q (.iconst 1)), (37, av_qa (.if_icmp .ne 7) 44), (40, av_q (.iconst 1)), (41, av_qa (.goto 4) 45)]
def cl_170_4 : List (Nat × av_E) := [(44, av_q (.iconst 0)), (45, av_qa (.ireturn) 1)]
def cf_170 : Nat → Option av_E := (av_br 19 (av_br 7 (av_lq cl_170_0) (av_lq cl_170_1)) (av_br 30 (av_lq cl_170_2) (av_br 41 (av_lq cl_170_3) (av_lq cl_170_4))))
set_option maxRecDepth 100000 in
set_option maxHeartbeats 4000000 in
theorem ck_170 : ∀ (pc : Nat) (x : av_E), cf_170 pc = some x → cd_170.lookup pc = some x := by
  have h : ∀ q ∈ cl_170_0 ++ (cl_170_1 ++ (cl_170_2 ++ (cl_170_3 ++ (cl_170_4)))), cd_170.lookup q.1 = some q.2 := av_ascQ (cd := cd_170) (by decide +kernel)
  obtain ⟨h0, h⟩ := List.forall_mem_append.mp h
  obtain ⟨h1, h⟩ := List.forall_mem_append.mp h
  obtain ⟨h2, h⟩ := List.forall_mem_append.mp h
  obtain ⟨h3, h⟩ := List.forall_mem_append.mp h
  have h4 := h
  exact (av_brP (av_brP (av_lqP h0) (av_lqP h1)) (av_brP (av_lqP h2) (av_brP (av_lqP h3) (av_lqP h4))))
def cl_171_0 : List (Nat × av_E) := [(0, av_q (.aload_n 0)), (1, av_qf (.getfield 69) 8 30 2), (4, av_q (.iload_n 1)), (5, av_q (.iaload)), (6, av_q (.iconst 5)), (7, av_qa (.if_icmp .ne 13) 20)]
def cl_171_1 : List (Nat × av_E) := [(10, av_q (.aload_n 0)), (11, av_qf (.getfield 81) 8 34 2), (14, av_q (.iload_n 1)), (15, av_q (.iaload)), (16, av_q (.iload_n 2)), (17, av_qa (.if_icmp .eq 5) 22)]
def cl_171_2 : List (Nat × av_E) := [(20, av_q (.iconst (-1))), (21, av_q (.ireturn)), (22, av_q (.aload_n 0)), (23, av_q (.iload_n 1)), (24, av_q (.aload_n 0)), (25, av_qf (.getfield 66) 8 26 2)]
def cl_171_3 : List (Nat × av_E) := [(28, av_q (.iconst 4)), (29, av_q (.iaload)), (30, av_qc (.invokevirtual 363) 166 2 0 8), (33, av_q (.istore_n 3)), (34, av_q (.aload_n 0)), (35, av_qf (.getfield 78) 8 33 2)]
def cl_171_4 : List (Nat × av_E) := [(38, av_q (.iload_n 2)), (39, av_q (.iaload)), (40, av_qa (.ifCond .lt 28) 68), (43, av_q (.aload_n 0)), (44, av_qf (.getfield 66) 8 26 2), (47, av_q (.bipush 6))]
def cl_171_5 : List (Nat × av_E) := [(49, av_q (.iaload)), (50, av_q (.iconst 1)), (51, av_qa (.if_icmp .ne 17) 68), (54, av_q (.iload_n 3)), (55, av_q (.aload_n 0)), (56, av_qf (.getfield 78) 8 33 2)]
def cl_171_6 : List (Nat × av_E) := [(59, av_q (.iload_n 2)), (60, av_q (.iaload)), (61, av_qa (.if_icmp .gt 7) 68), (64, av_q (.iconst (-1))), (65, av_qa (.goto 4) 69), (68, av_q (.iload_n 3))]
def cl_171_7 : List (Nat × av_E) := [(69, av_q (.ireturn))]
def cf_171 : Nat → Option av_E := (av_br 35 (av_br 17 (av_br 7 (av_lq cl_171_0) (av_lq cl_171_1)) (av_br 25 (av_lq cl_171_2) (av_lq cl_171_3))) (av_br 56 (av_br 47 (av_lq cl_171_4) (av_lq cl_171_5)) (av_br 68 (av_lq cl_171_6) (av_lq cl_171_7))))
set_option maxRecDepth 100000 in
set_option maxHeartbeats 4000000 in
theorem ck_171 : ∀ (pc : Nat) (x : av_E), cf_171 pc = some x → cd_171.lookup pc = some x := by
  have h : ∀ q ∈ cl_171_0 ++ (cl_171_1 ++ (cl_171_2 ++ (cl_171_3 ++ (cl_171_4 ++ (cl_171_5 ++ (cl_171_6 ++ (cl_171_7))))))), cd_171.lookup q.1 = some q.2 := av_ascQ (cd := cd_171) (by decide +kernel)
  obtain ⟨h0, h⟩ := List.forall_mem_append.mp h
  obtain ⟨h1, h⟩ := List.forall_mem_append.mp h
  obtain ⟨h2, h⟩ := List.forall_mem_append.mp h
  obtain ⟨h3, h⟩ := List.forall_mem_append.mp h
  obtain ⟨h4, h⟩ := List.forall_mem_append.mp h
  obtain ⟨h5, h⟩ := List.forall_mem_append.mp h
  obtain ⟨h6, h⟩ := List.forall_mem_append.mp h
  have h7 := h
  exact (av_brP (av_brP (av_brP (av_lqP h0) (av_lqP h1)) (av_brP (av_lqP h2) (av_lqP h3))) (av_brP (av_brP (av_lqP h4) (av_lqP h5)) (av_brP (av_lqP h6) (av_lqP h7))))
def cl_172_0 : List (Nat × av_E) := [(0, av_q (.aload_n 0)), (1, av_q (.iload_n 1)), (2, av_qc (.invokevirtual 366) 169 1 0 8), (5, av_qa (.ifCond .eq 27) 32), (8, av_q (.aload_n 0)), (9, av_qf (.getfield 81) 8 34 2)]
def cl_172_1 : List (Nat × av_E) := [(12, av_q (.iload_n 1)), (13, av_q (.iaload)), (14, av_q (.iload_n 2)), (15, av_qa (.if_icmp .ne 17) 32), (18, av_q (.aload_n 0)), (19, av_q (.iload_n 1))]
def cl_172_2 : List (Nat × av_E) := [(20, av_q (.aload_n 0)), (21, av_qf (.getfield 66) 8 26 2), (24, av_q (.iconst 5)), (25, av_q (.iaload)), (26, av_qc (.invokevirtual 363) 166 2 0 8), (29, av_qa (.goto 4) 33)]
def cl_172_3 : List (Nat × av_E) := [(32, av_q (.iconst (-1))), (33, av_q (.ireturn))]
def cf_172 : Nat → Option av_E := (av_br 19 (av_br 9 (av_lq cl_172_0) (av_lq cl_172_1)) (av_br 29 (av_lq cl_172_2) (av_lq cl_172_3)))
set_option maxRecDepth 100000 in
set_option maxHeartbeats 4000000 in
theorem ck_172 : ∀ (pc : Nat) (x : av_E), cf_172 pc = some x → cd_172.lookup pc = some x := by
  have h : ∀ q ∈ cl_172_0 ++ (cl_172_1 ++ (cl_172_2 ++ (cl_172_3))), cd_172.lookup q.1 = some q.2 := av_ascQ (cd := cd_172) (by decide +kernel)
  obtain ⟨h0, h⟩ := List.forall_mem_append.mp h
  obtain ⟨h1, h⟩ := List.forall_mem_append.mp h
  obtain ⟨h2, h⟩ := List.forall_mem_append.mp h
  have h3 := h
  exact (av_brP (av_brP (av_lqP h0) (av_lqP h1)) (av_brP (av_lqP h2) (av_lqP h3)))
def cl_173_0 : List (Nat × av_E) := [(0, av_q (.iload_n 2)), (1, av_qa (.ifCond .lt 42) 43), (4, av_q (.iload_n 2)), (5, av_q (.aload_n 0)), (6, av_qf (.getfield 124) 8 48 2), (9, av_q (.iload_n 1))]
def cl_173_1 : List (Nat × av_E) := [(10, av_q (.iaload)), (11, av_qa (.if_icmp .gt 32) 43), (14, av_q (.iload_n 2)), (15, av_q (.aload_n 0)), (16, av_qf (.getfield 124) 8 48 2), (19, av_q (.iload_n 1))]
def cl_173_2 : List (Nat × av_E) := [(20, av_q (.iaload)), (21, av_qa (.if_icmp .ne 23) 44), (24, av_q (.aload_n 0)), (25, av_qf (.getfield 127) 8 49 2), (28, av_q (.iload_n 1)), (29, av_q (.iaload))]
def cl_173_3 : List (Nat × av_E) := [(30, av_qa (.ifCond .le 14) 44), (33, av_q (.aload_n 0)), (34, av_qf (.getfield 127) 8 49 2), (37, av_q (.iload_n 1)), (38, av_q (.iaload)), (39, av_q (.iload_n 3))]
def cl_173_4 : List (Nat × av_E) := [(40, av_qa (.if_icmp .gt 4) 44), (43, av_q (.return_)), (44, av_q (.aload_n 0)), (45, av_qf (.getfield 124) 8 48 2), (48, av_q (.iload_n 1)), (49, av_q (.iload_n 2))]
def cl_173_5 : List (Nat × av_E) := [(50, av_q (.iastore)), (51, av_q (.aload_n 0)), (52, av_qf (.getfield 127) 8 49 2), (55, av_q (.iload_n 1)), (56, av_q (.iload_n 3)), (57, av_q (.iastore))]
def cl_173_6 : List (Nat × av_E) := [(58, av_q (.return_))]
def cf_173 : Nat → Option av_E := (av_br 29 (av_br 9 (av_lq cl_173_0) (av_br 19 (av_lq cl_173_1) (av_lq cl_173_2))) (av_br 49 (av_br 39 (av_lq cl_173_3) (av_lq cl_173_4)) (av_br 57 (av_lq cl_173_5) (av_lq cl_173_6))))
set_option maxRecDepth 100000 in
set_option maxHeartbeats 4000000 in
theorem ck_173 : ∀ (pc : Nat) (x : av_E), cf_173 pc = some x → cd_173.lookup pc = some x := by
  have h : ∀ q ∈ cl_173_0 ++ (cl_173_1 ++ (cl_173_2 ++ (cl_173_3 ++ (cl_173_4 ++ (cl_173_5 ++ (cl_173_6)))))), cd_173.lookup q.1 = some q.2 := av_ascQ (cd := cd_173) (by decide +kernel)
  obtain ⟨h0, h⟩ := List.forall_mem_append.mp h
  obtain ⟨h1, h⟩ := List.forall_mem_append.mp h
  obtain ⟨h2, h⟩ := List.forall_mem_append.mp h
  obtain ⟨h3, h⟩ := List.forall_mem_append.mp h
  obtain ⟨h4, h⟩ := List.forall_mem_append.mp h
  obtain ⟨h5, h⟩ := List.forall_mem_append.mp h
  have h6 := h
  exact (av_brP (av_brP (av_lqP h0) (av_brP (av_lqP h1) (av_lqP h2))) (av_brP (av_brP (av_lqP h3) (av_lqP h4)) (av_brP (av_lqP h5) (av_lqP h6))))
def cl_174_0 : List (Nat × av_E) := [(0, av_q (.iconst 0)), (1, av_q (.istore_n 1)), (2, av_q (.iload_n 1)), (3, av_q (.aload_n 0)), (4, av_qf (.getfield 351) 8 27 0), (7, av_qa (.if_icmp .ge 175) 182)]
def cl_174_1 : List (Nat × av_E) := [(10, av_q (.aload_n 0)), (11, av_q (.iload_n 1)), (12, av_qc (.invokevirtual 369) 168 1 0 8), (15, av_qa (.ifCond .ne 6) 21), (18, av_qa (.goto 158) 176), (21, av_q (.aload_n 0))]
def cl_174_2 : List (Nat × av_E) := [(22, av_qf (.getfield 121) 8 47 2), (25, av_q (.iload_n 1)), (26, av_q (.aload_n 0)), (27, av_qf (.getfield 90) 8 37 2), (30, av_q (.iload_n 1)), (31, av_q (.baload))]
def cl_174_3 : List (Nat × av_E) := [(32, av_qa (.ifCond .eq 7) 39), (35, av_q (.iconst (-1))), (36, av_qa (.goto 14) 50), (39, av_q (.aload_n 0)), (40, av_q (.iload_n 1)), (41, av_q (.aload_n 0))]
def cl_174_4 : List (Nat × av_E) := [(42, av_qf (.getfield 66) 8 26 2), (45, av_q (.iconst 3)), (46, av_q (.iaload)), (47, av_qc (.invokevirtual 363) 166 2 0 8), (50, av_q (.iastore)), (51, av_q (.aload_n 0))]
def cl_174_5 : List (Nat × av_E) := [(52, av_qf (.getfield 124) 8 48 2), (55, av_q (.iload_n 1)), (56, av_q (.sipush 9999)), (59, av_q (.iastore)), (60, av_q (.aload_n 0)), (61, av_qf (.getfield 127) 8 49 2)]
def cl_174_6 : List (Nat × av_E) := [(64, av_q (.iload_n 1)), (65, av_q (.iconst 0)), (66, av_q (.iastore)), (67, av_q (.iload_n 1)), (68, av_q (.iconst 1)), (69, av_q (.iadd))]
def cl_174_7 : List (Nat × av_E) := [(70, av_q (.istore_n 2)), (71, av_q (.iload_n 2)), (72, av_q (.aload_n 0)), (73, av_qf (.getfield 351) 8 27 0), (76, av_qa (.if_icmp .ge 33) 109), (79, av_q (.aload_n 0))]
def cl_174_8 : List (Nat × av_E) := [(80, av_q (.iload_n 1)), (81, av_q (.aload_n 0)), (82, av_q (.iload_n 2)), (83, av_q (.iload_n 1)), (84, av_qc (.invokevirtual 372) 171 2 0 8), (87, av_q (.iconst 1))]
def cl_174_9 : List (Nat × av_E) := [(88, av_qc (.invokevirtual 375) 173 3 0 8), (91, av_q (.aload_n 0)), (92, av_q (.iload_n 1)), (93, av_q (.aload_n 0)), (94, av_q (.iload_n 2)), (95, av_q (.iload_n 1))]
def cl_174_10 : List (Nat × av_E) := [(96, av_qc (.invokevirtual 378) 172 2 0 8), (99, av_q (.iconst 2)), (100, av_qc (.invokevirtual 375) 173 3 0 8), (103, av_q (.iinc 2 1)), (106, av_qa (.goto (-35)) 71), (109, av_q (.aload_n 0))]
def cl_174_11 : List (Nat × av_E) := [(110, av_qf (.getfield 78) 8 33 2), (113, av_q (.iload_n 1)), (114, av_q (.iaload)), (115, av_qa (.ifCond .lt 20) 135), (118, av_q (.aload_n 0)), (119, av_q (.iload_n 1))]
def cl_174_12 : List (Nat × av_E) := [(120, av_q (.aload_n 0)), (121, av_qf (.getfield 78) 8 33 2), (124, av_q (.iload_n 1)), (125, av_q (.iaload)), (126, av_q (.iconst 1)), (127, av_q (.iadd))]
def cl_174_13 : List (Nat × av_E) := [(128, av_q (.iconst 3)), (129, av_qc (.invokevirtual 375) 173 3 0 8), (132, av_qa (.goto 44) 176), (135, av_q (.aload_n 0)), (136, av_qf (.getfield 66) 8 26 2), (139, av_q (.bipush 7))]
def cl_174_14 : List (Nat × av_E) := [(141, av_q (.iaload)), (142, av_qa (.ifCond .lt 34) 176), (145, av_q (.aload_n 0)), (146, av_qf (.getfield 112) 8 44 2), (149, av_q (.iload_n 1)), (150, av_q (.iaload))]
def cl_174_15 : List (Nat × av_E) := [(151, av_qa (.ifCond .lt 25) 176), (154, av_q (.aload_n 0)), (155, av_q (.iload_n 1)), (156, av_q (.aload_n 0)), (157, av_qf (.getfield 112) 8 44 2), (160, av_q (.iload_n 1))]
def cl_174_16 : List (Nat × av_E) := [(161, av_q (.iaload)), (162, av_q (.aload_n 0)), (163, av_qf (.getfield 66) 8 26 2), (166, av_q (.bipush 7)), (168, av_q (.iaload)), (169, av_q (.iadd))]
def cl_174_17 : List (Nat × av_E) := [(170, av_q (.iconst 1)), (171, av_q (.iadd)), (172, av_q (.iconst 4)), (173, av_qc (.invokevirtual 375) 173 3 0 8), (176, av_q (.iinc 1 1)), (179, av_qa (.goto (-177)) 2)]
def cl_174_18 : List (Nat × av_E) := [(182, av_q (.return_))]
def cf_174 : Nat → Option av_E := (av_br 87 (av_br 41 (av_br 21 (av_br 7 (av_lq cl_174_0) (av_lq cl_174_1)) (av_br 31 (av_lq cl_174_2) (av_lq cl_174_3))) (av_br 61 (av_br 51 (av_lq cl_174_4) (av_lq cl_174_5)) (av_br 69 (av_lq cl_174_6) (av_br 79 (av_lq cl_174_7) (av_lq cl_174_8))))) (av_br 139 (av_br 109 (av_br 95 (av_lq cl_174_9) (av_lq cl_174_10)) (av_br 119 (av_lq cl_174_11) (av_br 127 (av_lq cl_174_12) (av_lq cl_174_13)))) (av_br 160 (av_br 150 (av_lq cl_174_14) (av_lq cl_174_15)) (av_br 169 (av_lq cl_174_16) (av_br 179 (av_lq cl_174_17) (av_lq cl_174_18))))))
set_option maxRecDepth 100000 in
set_option maxHeartbeats 4000000 in
theorem ck_174 : ∀ (pc : Nat) (x : av_E), cf_174 pc = some x → cd_174.lookup pc = some x := by
  have h : ∀ q ∈ cl_174_0 ++ (cl_174_1 ++ (cl_174_2 ++ (cl_174_3 ++ (cl_174_4 ++ (cl_174_5 ++ (cl_174_6 ++ (cl_174_7 ++ (cl_174_8 ++ (cl_174_9 ++ (cl_174_10 ++ (cl_174_11 ++ (cl_174_12 ++ (cl_174_13 ++ (cl_174_14 ++ (cl_174_15 ++ (cl_174_16 ++ (cl_174_17 ++ (cl_174_18)))))))))))))))))), cd_174.lookup q.1 = some q.2 := av_ascQ (cd := cd_174) (by decide +kernel)
  obtain ⟨h0, h⟩ := List.forall_mem_append.mp h
  obtain ⟨h1, h⟩ := List.forall_mem_append.mp h
  obtain ⟨h2, h⟩ := List.forall_mem_append.mp h
  obtain ⟨h3, h⟩ := List.forall_mem_append.mp h
  obtain ⟨h4, h⟩ := List.forall_mem_append.mp h
  obtain ⟨h5, h⟩ := List.forall_mem_append.mp h
  obtain ⟨h6, h⟩ := List.forall_mem_append.mp h
  obtain ⟨h7, h⟩ := List.forall_mem_append.mp h
  obtain ⟨h8, h⟩ := List.forall_mem_append.mp h
  obtain ⟨h9, h⟩ := List.forall_mem_append.mp h
  obtain ⟨h10, h⟩ := List.forall_mem_append.mp h
  obtain ⟨h11, h⟩ := List.forall_mem_append.mp h
  obtain ⟨h12, h⟩ := List.forall_mem_append.mp h
  obtain ⟨h13, h⟩ := List.forall_mem_append.mp h
  obtain ⟨h14, h⟩ := List.forall_mem_append.mp h
  obtain ⟨h15, h⟩ := List.forall_mem_append.mp h
  obtain ⟨h16, h⟩ := List.forall_mem_append.mp h
  obtain ⟨h17, h⟩ := List.forall_mem_append.mp h
  have h18 := h
  exact (av_brP (av_brP (av_brP (av_brP (av_lqP h0) (av_lqP h1)) (av_brP (av_lqP h2) (av_lqP h3))) (av_brP (av_brP (av_lqP h4) (av_lqP h5)) (av_brP (av_lqP h6) (av_brP (av_lqP h7) (av_lqP h8))))) (av_brP (av_brP (av_brP (av_lqP h9) (av_lqP h10)) (av_brP (av_lqP h11) (av_brP (av_lqP h12) (av_lqP h13)))) (av_brP (av_brP (av_lqP h14) (av_lqP h15)) (av_brP (av_lqP h16) (av_brP (av_lqP h17) (av_lqP h18))))))
def cl_175_0 : List (Nat × av_E) := [(0, av_q (.aload_n 0)), (1, av_qf (.getfield 121) 8 47 2), (4, av_q (.iload_n 1)), (5, av_q (.iaload)), (6, av_qa (.ifCond .lt 27) 33), (9, av_q (.iload_n 2))]
def cl_175_1 : List (Nat × av_E) := [(10, av_q (.aload_n 0)), (11, av_qf (.getfield 121) 8 47 2), (14, av_q (.iload_n 1)), (15, av_q (.iaload)), (16, av_qa (.if_icmp .lt 17) 33), (19, av_q (.iload_n 2))]
def cl_175_2 : List (Nat × av_E) := [(20, av_q (.aload_n 0)), (21, av_qf (.getfield 124) 8 48 2), (24, av_q (.iload_n 1)), (25, av_q (.iaload)), (26, av_qa (.if_icmp .ge 7) 33), (29, av_q (.iconst 1))]
def cl_175_3 : List (Nat × av_E) := [(30, av_qa (.goto 4) 34), (33, av_q (.iconst 0)), (34, av_qa (.ireturn) 1)]
def cf_175 : Nat → Option av_E := (av_br 19 (av_br 9 (av_lq cl_175_0) (av_lq cl_175_1)) (av_br 29 (av_lq cl_175_2) (av_lq cl_175_3)))
set_option maxRecDepth 100000 in
set_option maxHeartbeats 4000000 in
theorem ck_175 : ∀ (pc : Nat) (x : av_E), cf_175 pc = some x → cd_175.lookup pc = some x := by
  have h : ∀ q ∈ cl_175_0 ++ (cl_175_1 ++ (cl_175_2 ++ (cl_175_3))), cd_175.lookup q.1 = some q.2 := av_ascQ (cd := cd_175) (by decide +kernel)
  obtain ⟨h0, h⟩ := List.forall_mem_append.mp h
  obtain ⟨h1, h⟩ := List.forall_mem_append.mp h
  obtain ⟨h2, h⟩ := List.forall_mem_append.mp h
  have h3 := h
  exact (av_brP (av_brP (av_lqP h0) (av_lqP h1)) (av_brP (av_lqP h2) (av_lqP h3)))
def cl_176_0 : List (Nat × av_E) := [(0, av_q (.aload_n 0)), (1, av_qf (.getfield 69) 8 30 2), (4, av_q (.iload_n 1)), (5, av_q (.iaload)), (6, av_q (.bipush 6)), (8, av_qa (.if_icmp .ne 12) 20)]
def cl_176_1 : List (Nat × av_E) := [(11, av_q (.aload_n 0)), (12, av_qf (.getfield 109) 8 43 2), (15, av_q (.iload_n 1)), (16, av_q (.iaload)), (17, av_qa (.goto 33) 50), (20, av_q (.aload_n 0))]
def cl_176_2 : List (Nat × av_E) := [(21, av_q (.iload_n 1)), (22, av_q (.aload_n 0)), (23, av_qf (.getfield 66) 8 26 2), (26, av_q (.aload_n 0)), (27, av_qf (.getfield 72) 8 31 2), (30, av_q (.iload_n 1))]
def cl_176_3 : List (Nat × av_E) := [(31, av_q (.iaload)), (32, av_q (.iconst 2)), (33, av_qa (.if_icmp .le 7) 40), (36, av_q (.iconst 2)), (37, av_qa (.goto 9) 46), (40, av_q (.aload_n 0))]
def cl_176_4 : List (Nat × av_E) := [(41, av_qf (.getfield 72) 8 31 2), (44, av_q (.iload_n 1)), (45, av_q (.iaload)), (46, av_q (.iaload)), (47, av_qc (.invokevirtual 363) 166 2 0 8), (50, av_q (.ireturn))]
def cf_176 : Nat → Option av_E := (av_br 20 (av_br 8 (av_lq cl_176_0) (av_lq cl_176_1)) (av_br 30 (av_lq cl_176_2) (av_br 40 (av_lq cl_176_3) (av_lq cl_176_4))))
set_option maxRecDepth 100000 in
set_option maxHeartbeats 4000000 in
theorem ck_176 : ∀ (pc : Nat) (x : av_E), cf_176 pc = some x → cd_176.lookup pc = some x := by
  have h : ∀ q ∈ cl_176_0 ++ (cl_176_1 ++ (cl_176_2 ++ (cl_176_3 ++ (cl_176_4)))), cd_176.lookup q.1 = some q.2 := av_ascQ (cd := cd_176) (by decide +kernel)
  obtain ⟨h0, h⟩ := List.forall_mem_append.mp h
  obtain ⟨h1, h⟩ := List.forall_mem_append.mp h
  obtain ⟨h2, h⟩ := List.forall_mem_append.mp h
  obtain ⟨h3, h⟩ := List.forall_mem_append.mp h
  have h4 := h
  exact (av_brP (av_brP (av_lqP h0) (av_lqP h1)) (av_brP (av_lqP h2) (av_brP (av_lqP h3) (av_lqP h4))))
def cl_177_0 : List (Nat × av_E) := [(0, av_q (.iload_n 1)), (1, av_q (.iconst 1)), (2, av_q (.iadd)), (3, av_q (.istore_n 3)), (4, av_q (.iload_n 3)), (5, av_q (.aload_n 0))]
def cl_177_1 : List (Nat × av_E) := [(6, av_qf (.getfield 351) 8 27 0), (9, av_qa (.if_icmp .ge 59) 68), (12, av_q (.aload_n 0)), (13, av_qf (.getfield 69) 8 30 2), (16, av_q (.iload_n 3)), (17, av_q (.iaload))]
def cl_177_2 : List (Nat × av_E) := [(18, av_q (.iconst 5)), (19, av_qa (.if_icmp .ne 27) 46), (22, av_q (.aload_n 0)), (23, av_qf (.getfield 81) 8 34 2), (26, av_q (.iload_n 3)), (27, av_q (.iaload))]
def cl_177_3 : List (Nat × av_E) := [(28, av_q (.iload_n 1)), (29, av_qa (.if_icmp .ne 17) 46), (32, av_q (.aload_n 0)), (33, av_q (.iload_n 3)), (34, av_q (.aload_n 0)), (35, av_qf (.getfield 66) 8 26 2)]
def cl_177_4 : List (Nat × av_E) := [(38, av_q (.iconst 4)), (39, av_q (.iaload)), (40, av_qc (.invokevirtual 363) 166 2 0 8), (43, av_qa (.goto 4) 47), (46, av_q (.iconst (-1))), (47, av_q (.istore 4))]
def cl_177_5 : List (Nat × av_E) := [(49, av_q (.iload 4)), (51, av_qa (.ifCond .lt 11) 62), (54, av_q (.iload 4)), (56, av_q (.iload_n 2)), (57, av_qa (.if_icmp .ge 5) 62), (60, av_q (.iconst 1))]
def cl_177_6 : List (Nat × av_E) := [(61, av_qa (.ireturn) 1), (62, av_q (.iinc 3 1)), (65, av_qa (.goto (-61)) 4), (68, av_q (.iconst 0)), (69, av_qa (.ireturn) 1)]
def cf_177 : Nat → Option av_E := (av_br 27 (av_br 5 (av_lq cl_177_0) (av_br 17 (av_lq cl_177_1) (av_lq cl_177_2))) (av_br 47 (av_br 35 (av_lq cl_177_3) (av_lq cl_177_4)) (av_br 60 (av_lq cl_177_5) (av_lq cl_177_6))))
set_option maxRecDepth 100000 in
set_option maxHeartbeats 4000000 in
theorem ck_177 : ∀ (pc : Nat) (x : av_E), cf_177 pc = some x → cd_177.lookup pc = some x := by
  have h : ∀ q ∈ cl_177_0 ++ (cl_177_1 ++ (cl_177_2 ++ (cl_177_3 ++ (cl_177_4 ++ (cl_177_5 ++ (cl_177_6)))))), cd_177.lookup q.1 = some q.2 := av_ascQ (cd := cd_177) (by decide +kernel)
  obtain ⟨h0, h⟩ := List.forall_mem_append.mp h
  obtain ⟨h1, h⟩ := List.forall_mem_append.mp h
  obtain ⟨h2, h⟩ := List.forall_mem_append.mp h
  obtain ⟨h3, h⟩ := List.forall_mem_append.mp h
  obtain ⟨h4, h⟩ := List.forall_mem_append.mp h
  obtain ⟨h5, h⟩ := List.forall_mem_append.mp h
  have h6 := h
  exact (av_brP (av_brP (av_lqP h0) (av_brP (av_lqP h1) (av_lqP h2))) (av_brP (av_brP (av_lqP h3) (av_lqP h4)) (av_brP (av_lqP h5) (av_lqP h6))))
def cl_178_0 : List (Nat × av_E) := [(0, av_q (.aload_n 0)), (1, av_qf (.getfield 381) 8 50 3), (4, av_qa (.ifCond .eq 12) 16), (7, av_q (.iload_n 3)), (8, av_q (.aload_n 0)), (9, av_qf (.getfield 384) 8 53 0)]
def cl_178_1 : List (Nat × av_E) := [(12, av_qa (.if_icmp .lt 4) 16), (15, av_q (.return_)), (16, av_q (.aload_n 0)), (17, av_q (.iconst 1)), (18, av_qf (.putfield 381) 8 50 3), (21, av_q (.aload_n 0))]
def cl_178_2 : List (Nat × av_E) := [(22, av_q (.iload_n 1)), (23, av_qf (.putfield 387) 8 51 0), (26, av_q (.aload_n 0)), (27, av_q (.iload_n 2)), (28, av_qf (.putfield 390) 8 52 0), (31, av_q (.aload_n 0))]
def cl_178_3 : List (Nat × av_E) := [(32, av_q (.iload_n 3)), (33, av_qf (.putfield 384) 8 53 0), (36, av_q (.return_))]
def cf_178 : Nat → Option av_E := (av_br 21 (av_br 9 (av_lq cl_178_0) (av_lq cl_178_1)) (av_br 31 (av_lq cl_178_2) (av_lq cl_178_3)))
set_option maxRecDepth 100000 in
set_option maxHeartbeats 4000000 in
theorem ck_178 : ∀ (pc : Nat) (x : av_E), cf_178 pc = some x → cd_178.lookup pc = some x := by
  have h : ∀ q ∈ cl_178_0 ++ (cl_178_1 ++ (cl_178_2 ++ (cl_178_3))), cd_178.lookup q.1 = some q.2 := av_ascQ (cd := cd_178) (by decide +kernel)
  obtain ⟨h0, h⟩ := List.forall_mem_append.mp h
  obtain ⟨h1, h⟩ := List.forall_mem_append.mp h
  obtain ⟨h2, h⟩ := List.forall_mem_append.mp h
  have h3 := h
  exact (av_brP (av_brP (av_lqP h0) (av_lqP h1)) (av_brP (av_lqP h2) (av_lqP h3)))
def cl_179_0 : List (Nat × av_E) := [(0, av_q (.iload_n 1)), (1, av_q (.iconst 1)), (2, av_q (.iadd)), (3, av_q (.istore_n 3)), (4, av_q (.iload_n 3)), (5, av_q (.aload_n 0))]
def cl_179_1 : List (Nat × av_E) := [(6, av_qf (.getfield 351) 8 27 0), (9, av_qa (.if_icmp .ge 84) 93), (12, av_q (.aload_n 0)), (13, av_qf (.getfield 69) 8 30 2), (16, av_q (.iload_n 3)), (17, av_q (.iaload))]
def cl_179_2 : List (Nat × av_E) := [(18, av_q (.iconst 2)), (19, av_qa (.if_icmp .eq 34) 53), (22, av_q (.aload_n 0)), (23, av_qf (.getfield 69) 8 30 2), (26, av_q (.iload_n 3)), (27, av_q (.iaload))]
def cl_179_3 : List (Nat × av_E) := [(28, av_q (.iconst 3)), (29, av_qa (.if_icmp .eq 24) 53), (32, av_q (.aload_n 0)), (33, av_qf (.getfield 69) 8 30 2), (36, av_q (.iload_n 3)), (37, av_q (.iaload))]
def cl_179_4 : List (Nat × av_E) := [(38, av_q (.iconst 4)), (39, av_qa (.if_icmp .eq 14) 53), (42, av_q (.aload_n 0)), (43, av_qf (.getfield 69) 8 30 2), (46, av_q (.iload_n 3)), (47, av_q (.iaload))]
def cl_179_5 : List (Nat × av_E) := [(48, av_q (.bipush 6)), (50, av_qa (.if_icmp .ne 7) 57), (53, av_q (.iconst 1)), (54, av_qa (.goto 4) 58), (57, av_q (.iconst 0)), (58, av_q (.istore 4))]
def cl_179_6 : List (Nat × av_E) := [(60, av_q (.iload 4)), (62, av_qa (.ifCond .eq 25) 87), (65, av_q (.aload_n 0)), (66, av_qf (.getfield 81) 8 34 2), (69, av_q (.iload_n 3)), (70, av_q (.iaload))]
def cl_179_7 : List (Nat × av_E) := [(71, av_q (.iload_n 1)), (72, av_qa (.if_icmp .ne 15) 87), (75, av_q (.aload_n 0)), (76, av_qf (.getfield 109) 8 43 2), (79, av_q (.iload_n 3)), (80, av_q (.iaload))]
def cl_179_8 : List (Nat × av_E) := [(81, av_q (.iload_n 2)), (82, av_qa (.if_icmp .gt 5) 87), (85, av_q (.iconst 1)), (86, av_qa (.ireturn) 1), (87, av_q (.iinc 3 1)), (90, av_qa (.goto (-86)) 4)]
def cl_179_9 : List (Nat × av_E) := [(93, av_q (.iconst 0)), (94, av_qa (.ireturn) 1)]
def cf_179 : Nat → Option av_E := (av_br 47 (av_br 17 (av_br 5 (av_lq cl_179_0) (av_lq cl_179_1)) (av_br 27 (av_lq cl_179_2) (av_br 37 (av_lq cl_179_3) (av_lq cl_179_4)))) (av_br 70 (av_br 58 (av_lq cl_179_5) (av_lq cl_179_6)) (av_br 80 (av_lq cl_179_7) (av_br 90 (av_lq cl_179_8) (av_lq cl_179_9)))))
set_option maxRecDepth 100000 in
set_option maxHeartbeats 4000000 in
theorem ck_179 : ∀ (pc : Nat) (x : av_E), cf_179 pc = some x → cd_179.lookup pc = some x := by
  have h : ∀ q ∈ cl_179_0 ++ (cl_179_1 ++ (cl_179_2 ++ (cl_179_3 ++ (cl_179_4 ++ (cl_179_5 ++ (cl_179_6 ++ (cl_179_7 ++ (cl_179_8 ++ (cl_179_9))))))))), cd_179.lookup q.1 = some q.2 := av_ascQ (cd := cd_179) (by decide +kernel)
  obtain ⟨h0, h⟩ := List.forall_mem_append.mp h
  obtain ⟨h1, h⟩ := List.forall_mem_append.mp h
  obtain ⟨h2, h⟩ := List.forall_mem_append.mp h
  obtain ⟨h3, h⟩ := List.forall_mem_append.mp h
  obtain ⟨h4, h⟩ := List.forall_mem_append.mp h
  obtain ⟨h5, h⟩ := List.forall_mem_append.mp h
  obtain ⟨h6, h⟩ := List.forall_mem_append.mp h
  obtain ⟨h7, h⟩ := List.forall_mem_append.mp h
  obtain ⟨h8, h⟩ := List.forall_mem_append.mp h
  have h9 := h
  exact (av_brP (av_brP (av_brP (av_lqP h0) (av_lqP h1)) (av_brP (av_lqP h2) (av_brP (av_lqP h3) (av_lqP h4)))) (av_brP (av_brP (av_lqP h5) (av_lqP h6)) (av_brP (av_lqP h7) (av_brP (av_lqP h8) (av_lqP h9)))))
def cl_180_0 : List (Nat × av_E) := [(0, av_q (.aload_n 0)), (1, av_q (.iconst 0)), (2, av_qf (.putfield 381) 8 50 3), (5, av_q (.iconst 0)), (6, av_q (.istore_n 1)), (7, av_q (.iload_n 1))]
def cl_180_1 : List (Nat × av_E) := [(8, av_q (.aload_n 0)), (9, av_qf (.getfield 351) 8 27 0), (12, av_qa (.if_icmp .ge 94) 106), (15, av_q (.aload_n 0)), (16, av_qf (.getfield 81) 8 34 2), (19, av_q (.iload_n 1))]
def cl_180_2 : List (Nat × av_E) := [(20, av_q (.iaload)), (21, av_q (.istore_n 2)), (22, av_q (.aload_n 0)), (23, av_q (.iload_n 1)), (24, av_qc (.invokevirtual 393) 170 1 0 8), (27, av_qa (.ifCond .eq 73) 100)]
def cl_180_3 : List (Nat × av_E) := [(30, av_q (.aload_n 0)), (31, av_q (.iload_n 2)), (32, av_qc (.invokevirtual 369) 168 1 0 8), (35, av_qa (.ifCond .ne 6) 41), (38, av_qa (.goto 62) 100), (41, av_q (.aload_n 0))]
def cl_180_4 : List (Nat × av_E) := [(42, av_q (.iload_n 1)), (43, av_qc (.invokevirtual 396) 176 1 0 8), (46, av_q (.istore_n 3)), (47, av_q (.iload_n 3)), (48, av_qa (.ifCond .lt 52) 100), (51, av_q (.aload_n 0))]
def cl_180_5 : List (Nat × av_E) := [(52, av_qf (.getfield 112) 8 44 2), (55, av_q (.iload_n 2)), (56, av_q (.iaload)), (57, av_qa (.ifCond .lt 43) 100), (60, av_q (.aload_n 0)), (61, av_qf (.getfield 112) 8 44 2)]
def cl_180_6 : List (Nat × av_E) := [(64, av_q (.iload_n 2)), (65, av_q (.iaload)), (66, av_q (.aload_n 0)), (67, av_qf (.getfield 109) 8 43 2), (70, av_q (.iload_n 1)), (71, av_q (.iaload))]
def cl_180_7 : List (Nat × av_E) := [(72, av_qa (.if_icmp .gt 28) 100), (75, av_q (.aload_n 0)), (76, av_q (.iload_n 1)), (77, av_q (.iload_n 3)), (78, av_qc (.invokevirtual 399) 177 2 0 8), (81, av_qa (.ifCond .ne 19) 100)]
def cl_180_8 : List (Nat × av_E) := [(84, av_q (.aload_n 0)), (85, av_q (.iload_n 2)), (86, av_q (.iload_n 3)), (87, av_qc (.invokevirtual 403) 175 2 0 8), (90, av_qa (.ifCond .eq 10) 100), (93, av_q (.aload_n 0))]
def cl_180_9 : List (Nat × av_E) := [(94, av_q (.iload_n 1)), (95, av_q (.iload_n 2)), (96, av_q (.iload_n 3)), (97, av_qc (.invokevirtual 406) 178 3 0 8), (100, av_q (.iinc 1 1)), (103, av_qa (.goto (-96)) 7)]
def cl_180_10 : List (Nat × av_E) := [(106, av_q (.aload_n 0)), (107, av_qf (.getfield 66) 8 26 2), (110, av_q (.bipush 8)), (112, av_q (.iaload)), (113, av_qa (.ifCond .ge 4) 117), (116, av_q (.return_))]
def cl_180_11 : List (Nat × av_E) := [(117, av_q (.iconst 0)), (118, av_q (.istore_n 1)), (119, av_q (.iload_n 1)), (120, av_q (.aload_n 0)), (121, av_qf (.getfield 351) 8 27 0), (124, av_qa (.if_icmp .ge 69) 193)]
def cl_180_12 : List (Nat × av_E) := [(127, av_q (.aload_n 0)), (128, av_q (.iload_n 1)), (129, av_qc (.invokevirtual 369) 168 1 0 8), (132, av_qa (.ifCond .eq 55) 187), (135, av_q (.aload_n 0)), (136, av_qf (.getfield 115) 8 45 2)]
def cl_180_13 : List (Nat × av_E) := [(139, av_q (.iload_n 1)), (140, av_q (.iaload)), (141, av_qa (.ifCond .ge 6) 147), (144, av_qa (.goto 43) 187), (147, av_q (.aload_n 0)), (148, av_qf (.getfield 115) 8 45 2)]
def cl_180_14 : List (Nat × av_E) := [(151, av_q (.iload_n 1)), (152, av_q (.iaload)), (153, av_q (.aload_n 0)), (154, av_qf (.getfield 66) 8 26 2), (157, av_q (.bipush 8)), (159, av_q (.iaload))]
def cl_180_15 : List (Nat × av_E) := [(160, av_q (.iadd)), (161, av_q (.istore_n 2)), (162, av_q (.aload_n 0)), (163, av_q (.iload_n 1)), (164, av_q (.iload_n 2)), (165, av_qc (.invokevirtual 403) 175 2 0 8)]
def cl_180_16 : List (Nat × av_E) := [(168, av_qa (.ifCond .eq 19) 187), (171, av_q (.aload_n 0)), (172, av_q (.iload_n 1)), (173, av_q (.iload_n 2)), (174, av_qc (.invokevirtual 409) 179 2 0 8), (177, av_qa (.ifCond .ne 10) 187)]
def cl_180_17 : List (Nat × av_E) := [(180, av_q (.aload_n 0)), (181, av_q (.iconst (-1))), (182, av_q (.iload_n 1)), (183, av_q (.iload_n 2)), (184, av_qc (.invokevirtual 406) 178 3 0 8), (187, av_q (.iinc 1 1))]
def cl_180_18 : List (Nat × av_E) := [(190, av_qa (.goto (-71)) 119), (193, av_q (.return_))]
def cf_180 : Nat → Option av_E := (av_br 93 (av_br 41 (av_br 19 (av_br 7 (av_lq cl_180_0) (av_lq cl_180_1)) (av_br 27 (av_lq cl_180_2) (av_lq cl_180_3))) (av_br 61 (av_br 51 (av_lq cl_180_4) (av_lq cl_180_5)) (av_br 71 (av_lq cl_180_6) (av_br 81 (av_lq cl_180_7) (av_lq cl_180_8))))) (av_br 148 (av_br 116 (av_br 103 (av_lq cl_180_9) (av_lq cl_180_10)) (av_br 124 (av_lq cl_180_11) (av_br 136 (av_lq cl_180_12) (av_lq cl_180_13)))) (av_br 165 (av_br 159 (av_lq cl_180_14) (av_lq cl_180_15)) (av_br 177 (av_lq cl_180_16) (av_br 187 (av_lq cl_180_17) (av_lq cl_180_18))))))
set_option maxRecDepth 100000 in
set_option maxHeartbeats 4000000 in
theorem ck_180 : ∀ (pc : Nat) (x : av_E), cf_180 pc = some x → cd_180.lookup pc = some x := by
  have h : ∀ q ∈ cl_180_0 ++ (cl_180_1 ++ (cl_180_2 ++ (cl_180_3 ++ (cl_180_4 ++ (cl_180_5 ++ (cl_180_6 ++ (cl_180_7 ++ (cl_180_8 ++ (cl_180_9 ++ (cl_180_10 ++ (cl_180_11 ++ (cl_180_12 ++ (cl_180_13 ++ (cl_180_14 ++ (cl_180_15 ++ (cl_180_16 ++ (cl_180_17 ++ (cl_180_18)))))))))))))))))), cd_180.lookup q.1 = some q.2 := av_ascQ (cd := cd_180) (by decide +kernel)
  obtain ⟨h0, h⟩ := List.forall_mem_append.mp h
  obtain ⟨h1, h⟩ := List.forall_mem_append.mp h
  obtain ⟨h2, h⟩ := List.forall_mem_append.mp h
  obtain ⟨h3, h⟩ := List.forall_mem_append.mp h
  obtain ⟨h4, h⟩ := List.forall_mem_append.mp h
  obtain ⟨h5, h⟩ := List.forall_mem_append.mp h
  obtain ⟨h6, h⟩ := List.forall_mem_append.mp h
  obtain ⟨h7, h⟩ := List.forall_mem_append.mp h
  obtain ⟨h8, h⟩ := List.forall_mem_append.mp h
  obtain ⟨h9, h⟩ := List.forall_mem_append.mp h
  obtain ⟨h10, h⟩ := List.forall_mem_append.mp h
  obtain ⟨h11, h⟩ := List.forall_mem_append.mp h
  obtain ⟨h12, h⟩ := List.forall_mem_append.mp h
  obtain ⟨h13, h⟩ := List.forall_mem_append.mp h
  obtain ⟨h14, h⟩ := List.forall_mem_append.mp h
  obtain ⟨h15, h⟩ := List.forall_mem_append.mp h
  obtain ⟨h16, h⟩ := List.forall_mem_append.mp h
  obtain ⟨h17, h⟩ := List.forall_mem_append.mp h
  have h18 := h
  exact (av_brP (av_brP (av_brP (av_brP (av_lqP h0) (av_lqP h1)) (av_brP (av_lqP h2) (av_lqP h3))) (av_brP (av_brP (av_lqP h4) (av_lqP h5)) (av_brP (av_lqP h6) (av_brP (av_lqP h7) (av_lqP h8))))) (av_brP (av_brP (av_brP (av_lqP h9) (av_lqP h10)) (av_brP (av_lqP h11) (av_brP (av_lqP h12) (av_lqP h13)))) (av_brP (av_brP (av_lqP h14) (av_lqP h15)) (av_brP (av_lqP h16) (av_brP (av_lqP h17) (av_lqP h18))))))
def cl_181_0 : List (Nat × av_E) := [(0, av_q (.aload_n 0)), (1, av_q (.iload_n 1)), (2, av_qc (.invokevirtual 412) 165 1 0 8), (5, av_q (.aload_n 0)), (6, av_qc (.invokevirtual 415) 174 0 0 8), (9, av_q (.aload_n 0))]
def cl_181_1 : List (Nat × av_E) := [(10, av_qc (.invokevirtual 418) 180 0 0 8), (13, av_q (.return_))]
def cf_181 : Nat → Option av_E := (av_br 9 (av_lq cl_181_0) (av_lq cl_181_1))
set_option maxRecDepth 100000 in
set_option maxHeartbeats 4000000 in
theorem ck_181 : ∀ (pc : Nat) (x : av_E), cf_181 pc = some x → cd_181.lookup pc = some x := by
  have h : ∀ q ∈ cl_181_0 ++ (cl_181_1), cd_181.lookup q.1 = some q.2 := av_ascQ (cd := cd_181) (by decide +kernel)
  obtain ⟨h0, h⟩ := List.forall_mem_append.mp h
  have h1 := h
  exact (av_brP (av_lqP h0) (av_lqP h1))
def cl_182_0 : List (Nat × av_E) := [(0, av_q (.iload_n 1)), (1, av_q (.istore_n 3)), (2, av_q (.aload_n 0)), (3, av_qf (.getfield 94) 8 38 2), (6, av_q (.iconst 5)), (7, av_q (.iload_n 3))]
def cl_182_1 : List (Nat × av_E) := [(8, av_q (.imul)), (9, av_q (.iload_n 2)), (10, av_q (.iadd)), (11, av_q (.iaload)), (12, av_qa (.ifCond .ge 23) 35), (15, av_q (.aload_n 0))]
def cl_182_2 : List (Nat × av_E) := [(16, av_qf (.getfield 69) 8 30 2), (19, av_q (.iload_n 3)), (20, av_q (.iaload)), (21, av_q (.iconst 3)), (22, av_qa (.if_icmp .ne 13) 35), (25, av_q (.aload_n 0))]
def cl_182_3 : List (Nat × av_E) := [(26, av_qf (.getfield 81) 8 34 2), (29, av_q (.iload_n 3)), (30, av_q (.iaload)), (31, av_q (.istore_n 3)), (32, av_qa (.goto (-30)) 2), (35, av_q (.aload_n 0))]
def cl_182_4 : List (Nat × av_E) := [(36, av_qf (.getfield 94) 8 38 2), (39, av_q (.iconst 5)), (40, av_q (.iload_n 3)), (41, av_q (.imul)), (42, av_q (.iload_n 2)), (43, av_q (.iadd))]
def cl_182_5 : List (Nat × av_E) := [(44, av_q (.iaload)), (45, av_q (.ireturn))]
def cf_182 : Nat → Option av_E := (av_br 25 (av_br 7 (av_lq cl_182_0) (av_br 15 (av_lq cl_182_1) (av_lq cl_182_2))) (av_br 35 (av_lq cl_182_3) (av_br 43 (av_lq cl_182_4) (av_lq cl_182_5))))
set_option maxRecDepth 100000 in
set_option maxHeartbeats 4000000 in
theorem ck_182 : ∀ (pc : Nat) (x : av_E), cf_182 pc = some x → cd_182.lookup pc = some x := by
  have h : ∀ q ∈ cl_182_0 ++ (cl_182_1 ++ (cl_182_2 ++ (cl_182_3 ++ (cl_182_4 ++ (cl_182_5))))), cd_182.lookup q.1 = some q.2 := av_ascQ (cd := cd_182) (by decide +kernel)
  obtain ⟨h0, h⟩ := List.forall_mem_append.mp h
  obtain ⟨h1, h⟩ := List.forall_mem_append.mp h
  obtain ⟨h2, h⟩ := List.forall_mem_append.mp h
  obtain ⟨h3, h⟩ := List.forall_mem_append.mp h
  obtain ⟨h4, h⟩ := List.forall_mem_append.mp h
  have h5 := h
  exact (av_brP (av_brP (av_lqP h0) (av_brP (av_lqP h1) (av_lqP h2))) (av_brP (av_lqP h3) (av_brP (av_lqP h4) (av_lqP h5))))
def cl_183_0 : List (Nat × av_E) := [(0, av_q (.aload_n 0)), (1, av_q (.aload_n 0)), (2, av_qf (.getfield 390) 8 52 0), (5, av_q (.iload_n 1)), (6, av_qc (.invokevirtual 421) 182 2 0 8), (9, av_q (.istore_n 2))]
def cl_183_1 : List (Nat × av_E) := [(10, av_q (.aload_n 0)), (11, av_qf (.getfield 387) 8 51 0), (14, av_qa (.ifCond .lt 40) 54), (17, av_q (.aload_n 0)), (18, av_q (.aload_n 0)), (19, av_qf (.getfield 387) 8 51 0)]
def cl_183_2 : List (Nat × av_E) := [(22, av_qc (.invokevirtual 360) 167 1 0 8), (25, av_qa (.ifCond .eq 29) 54), (28, av_q (.aload_n 0)), (29, av_qf (.getfield 94) 8 38 2), (32, av_q (.iconst 5)), (33, av_q (.aload_n 0))]
def cl_183_3 : List (Nat × av_E) := [(34, av_qf (.getfield 387) 8 51 0), (37, av_q (.imul)), (38, av_q (.iload_n 1)), (39, av_q (.iadd)), (40, av_q (.iaload)), (41, av_qa (.ifCond .lt 13) 54)]
def cl_183_4 : List (Nat × av_E) := [(44, av_q (.aload_n 0)), (45, av_qf (.getfield 66) 8 26 2), (48, av_q (.bipush 10)), (50, av_q (.iaload)), (51, av_qa (.ifCond .ne 5) 56), (54, av_q (.iload_n 2))]
def cl_183_5 : List (Nat × av_E) := [(55, av_q (.ireturn)), (56, av_q (.aload_n 0)), (57, av_qf (.getfield 66) 8 26 2), (60, av_q (.bipush 10)), (62, av_q (.iaload)), (63, av_q (.iconst 1))]
def cl_183_6 : List (Nat × av_E) := [(64, av_qa (.if_icmp .ne 19) 83), (67, av_q (.aload_n 0)), (68, av_qf (.getfield 94) 8 38 2), (71, av_q (.iconst 5)), (72, av_q (.aload_n 0)), (73, av_qf (.getfield 387) 8 51 0)]
def cl_183_7 : List (Nat × av_E) := [(76, av_q (.imul)), (77, av_q (.iload_n 1)), (78, av_q (.iadd)), (79, av_q (.iaload)), (80, av_qa (.goto 4) 84), (83, av_q (.iconst (-1)))]
def cl_183_8 : List (Nat × av_E) := [(84, av_q (.ireturn))]
def cf_183 : Nat → Option av_E := (av_br 41 (av_br 19 (av_br 9 (av_lq cl_183_0) (av_lq cl_183_1)) (av_br 33 (av_lq cl_183_2) (av_lq cl_183_3))) (av_br 63 (av_br 54 (av_lq cl_183_4) (av_lq cl_183_5)) (av_br 73 (av_lq cl_183_6) (av_br 83 (av_lq cl_183_7) (av_lq cl_183_8)))))
set_option maxRecDepth 100000 in
set_option maxHeartbeats 4000000 in
theorem ck_183 : ∀ (pc : Nat) (x : av_E), cf_183 pc = some x → cd_183.lookup pc = some x := by
  have h : ∀ q ∈ cl_183_0 ++ (cl_183_1 ++ (cl_183_2 ++ (cl_183_3 ++ (cl_183_4 ++ (cl_183_5 ++ (cl_183_6 ++ (cl_183_7 ++ (cl_183_8)))))))), cd_183.lookup q.1 = some q.2 := av_ascQ (cd := cd_183) (by decide +kernel)
  obtain ⟨h0, h⟩ := List.forall_mem_append.mp h
  obtain ⟨h1, h⟩ := List.forall_mem_append.mp h
  obtain ⟨h2, h⟩ := List.forall_mem_append.mp h
  obtain ⟨h3, h⟩ := List.forall_mem_append.mp h
  obtain ⟨h4, h⟩ := List.forall_mem_append.mp h
  obtain ⟨h5, h⟩ := List.forall_mem_append.mp h
  obtain ⟨h6, h⟩ := List.forall_mem_append.mp h
  obtain ⟨h7, h⟩ := List.forall_mem_append.mp h
  have h8 := h
  exact (av_brP (av_brP (av_brP (av_lqP h0) (av_lqP h1)) (av_brP (av_lqP h2) (av_lqP h3))) (av_brP (av_brP (av_lqP h4) (av_lqP h5)) (av_brP (av_lqP h6) (av_brP (av_lqP h7) (av_lqP h8)))))
def cl_184_0 : List (Nat × av_E) := [(0, av_q (.aload_n 0)), (1, av_qc (.invokevirtual 424) 163 0 0 8), (4, av_q (.aload_n 0)), (5, av_qc (.invokevirtual 427) 164 0 0 8), (8, av_qa (.ifCond .ne 5) 13), (11, av_q (.iconst 0))]
def cl_184_1 : List (Nat × av_E) := [(12, av_qa (.ireturn) 1), (13, av_q (.iconst 0)), (14, av_q (.istore_n 1)), (15, av_q (.iload_n 1)), (16, av_q (.aload_n 0)), (17, av_qf (.getfield 357) 8 29 0)]
def cl_184_2 : List (Nat × av_E) := [(20, av_qa (.if_icmp .ge 23) 43), (23, av_q (.aload_n 0)), (24, av_q (.iload_n 1)), (25, av_qc (.invokevirtual 431) 181 1 0 8), (28, av_q (.aload_n 0)), (29, av_qf (.getfield 381) 8 50 3)]
def cl_184_3 : List (Nat × av_E) := [(32, av_qa (.ifCond .ne 5) 37), (35, av_q (.iconst 0)), (36, av_qa (.ireturn) 1), (37, av_q (.iinc 1 1)), (40, av_qa (.goto (-25)) 15), (43, av_q (.iconst 1))]
def cl_184_4 : List (Nat × av_E) := [(44, av_qa (.ireturn) 1)]
def cf_184 : Nat → Option av_E := (av_br 17 (av_br 11 (av_lq cl_184_0) (av_lq cl_184_1)) (av_br 29 (av_lq cl_184_2) (av_br 43 (av_lq cl_184_3) (av_lq cl_184_4))))
set_option maxRecDepth 100000 in
set_option maxHeartbeats 4000000 in
theorem ck_184 : ∀ (pc : Nat) (x : av_E), cf_184 pc = some x → cd_184.lookup pc = some x := by
  have h : ∀ q ∈ cl_184_0 ++ (cl_184_1 ++ (cl_184_2 ++ (cl_184_3 ++ (cl_184_4)))), cd_184.lookup q.1 = some q.2 := av_ascQ (cd := cd_184) (by decide +kernel)
  obtain ⟨h0, h⟩ := List.forall_mem_append.mp h
  obtain ⟨h1, h⟩ := List.forall_mem_append.mp h
  obtain ⟨h2, h⟩ := List.forall_mem_append.mp h
  obtain ⟨h3, h⟩ := List.forall_mem_append.mp h
  have h4 := h
  exact (av_brP (av_brP (av_lqP h0) (av_lqP h1)) (av_brP (av_lqP h2) (av_brP (av_lqP h3) (av_lqP h4))))
def cl_185_0 : List (Nat × av_E) := [(0, av_q (.iconst 0)), (1, av_q (.istore_n 2)), (2, av_q (.iload_n 2)), (3, av_q (.bipush 16)), (5, av_qa (.if_icmp .ge 25) 30), (8, av_q (.aload_n 0))]
def cl_185_1 : List (Nat × av_E) := [(9, av_qf (.getfield 133) 8 55 2), (12, av_q (.iload_n 2)), (13, av_q (.iload_n 2)), (14, av_q (.iload_n 1)), (15, av_qa (.if_icmp .ne 7) 22), (18, av_q (.iconst 1))]
def cl_185_2 : List (Nat × av_E) := [(19, av_qa (.goto 4) 23), (22, av_q (.iconst 0)), (23, av_q (.bastore)), (24, av_q (.iinc 2 1)), (27, av_qa (.goto (-25)) 2), (30, av_q (.iload_n 1))]
def cl_185_3 : List (Nat × av_E) := [(31, av_q (.istore_n 2)), (32, av_q (.iload_n 2)), (33, av_qa (.ifCond .lt 67) 100), (36, av_q (.iconst 0)), (37, av_q (.istore_n 3)), (38, av_q (.iload_n 3))]
def cl_185_4 : List (Nat × av_E) := [(39, av_q (.aload_n 0)), (40, av_qf (.getfield 19) 8 3 2), (43, av_q (.iload_n 2)), (44, av_q (.iaload)), (45, av_qa (.if_icmp .ge 49) 94), (48, av_q (.aload_n 0))]
def cl_185_5 : List (Nat × av_E) := [(49, av_qf (.getfield 133) 8 55 2), (52, av_q (.iload_n 2)), (53, av_q (.baload)), (54, av_qa (.ifCond .eq 40) 94), (57, av_q (.aload_n 0)), (58, av_qf (.getfield 40) 8 10 2)]
def cl_185_6 : List (Nat × av_E) := [(61, av_q (.bipush 12)), (63, av_q (.iload_n 2)), (64, av_q (.imul)), (65, av_q (.iload_n 3)), (66, av_q (.iadd)), (67, av_q (.iaload))]
def cl_185_7 : List (Nat × av_E) := [(68, av_qa (.ifCond .lt 20) 88), (71, av_q (.aload_n 0)), (72, av_qf (.getfield 133) 8 55 2), (75, av_q (.aload_n 0)), (76, av_qf (.getfield 40) 8 10 2), (79, av_q (.bipush 12))]
def cl_185_8 : List (Nat × av_E) := [(81, av_q (.iload_n 2)), (82, av_q (.imul)), (83, av_q (.iload_n 3)), (84, av_q (.iadd)), (85, av_q (.iaload)), (86, av_q (.iconst 1))]
def cl_185_9 : List (Nat × av_E) := [(87, av_q (.bastore)), (88, av_q (.iinc 3 1)), (91, av_qa (.goto (-53)) 38), (94, av_q (.iinc 2 (-1))), (97, av_qa (.goto (-65)) 32), (100, av_q (.iconst 0))]
def cl_185_10 : List (Nat × av_E) := [(101, av_q (.istore_n 2)), (102, av_q (.iload_n 2)), (103, av_q (.iload_n 1)), (104, av_qa (.if_icmp .ge 36) 140), (107, av_q (.aload_n 0)), (108, av_qf (.getfield 133) 8 55 2)]
def cl_185_11 : List (Nat × av_E) := [(111, av_q (.iload_n 2)), (112, av_q (.baload)), (113, av_qa (.ifCond .ne 6) 119), (116, av_qa (.goto 18) 134), (119, av_q (.aload_n 0)), (120, av_q (.iload_n 2))]
def cl_185_12 : List (Nat × av_E) := [(121, av_qc (.invokevirtual 434) 162 1 0 8), (124, av_q (.aload_n 0)), (125, av_qf (.getfield 130) 8 54 2), (128, av_q (.iload_n 2)), (129, av_q (.aload_n 0)), (130, av_qc (.invokevirtual 437) 184 0 0 8)]
def cl_185_13 : List (Nat × av_E) := [(133, av_q (.bastore)), (134, av_q (.iinc 2 1)), (137, av_qa (.goto (-35)) 102), (140, av_q (.aload_n 0)), (141, av_q (.iload_n 1)), (142, av_qc (.invokevirtual 434) 162 1 0 8)]
def cl_185_14 : List (Nat × av_E) := [(145, av_q (.aload_n 0)), (146, av_qc (.invokevirtual 424) 163 0 0 8), (149, av_q (.return_))]
def cf_185 : Nat → Option av_E := (av_br 67 (av_br 30 (av_br 8 (av_lq cl_185_0) (av_br 18 (av_lq cl_185_1) (av_lq cl_185_2))) (av_br 48 (av_br 38 (av_lq cl_185_3) (av_lq cl_185_4)) (av_br 58 (av_lq cl_185_5) (av_lq cl_185_6)))) (av_br 108 (av_br 86 (av_br 79 (av_lq cl_185_7) (av_lq cl_185_8)) (av_br 100 (av_lq cl_185_9) (av_lq cl_185_10))) (av_br 130 (av_br 120 (av_lq cl_185_11) (av_lq cl_185_12)) (av_br 142 (av_lq cl_185_13) (av_lq cl_185_14)))))
set_option maxRecDepth 100000 in
set_option maxHeartbeats 4000000 in
theorem ck_185 : ∀ (pc : Nat) (x : av_E), cf_185 pc = some x → cd_185.lookup pc = some x := by
  have h : ∀ q ∈ cl_185_0 ++ (cl_185_1 ++ (cl_185_2 ++ (cl_185_3 ++ (cl_185_4 ++ (cl_185_5 ++ (cl_185_6 ++ (cl_185_7 ++ (cl_185_8 ++ (cl_185_9 ++ (cl_185_10 ++ (cl_185_11 ++ (cl_185_12 ++ (cl_185_13 ++ (cl_185_14)))))))))))))), cd_185.lookup q.1 = some q.2 := av_ascQ (cd := cd_185) (by decide +kernel)
  obtain ⟨h0, h⟩ := List.forall_mem_append.mp h
  obtain ⟨h1, h⟩ := List.forall_mem_append.mp h
  obtain ⟨h2, h⟩ := List.forall_mem_append.mp h
  obtain ⟨h3, h⟩ := List.forall_mem_append.mp h
  obtain ⟨h4, h⟩ := List.forall_mem_append.mp h
  obtain ⟨h5, h⟩ := List.forall_mem_append.mp h
  obtain ⟨h6, h⟩ := List.forall_mem_append.mp h
  obtain ⟨h7, h⟩ := List.forall_mem_append.mp h
  obtain ⟨h8, h⟩ := List.forall_mem_append.mp h
  obtain ⟨h9, h⟩ := List.forall_mem_append.mp h
  obtain ⟨h10, h⟩ := List.forall_mem_append.mp h
  obtain ⟨h11, h⟩ := List.forall_mem_append.mp h
  obtain ⟨h12, h⟩ := List.forall_mem_append.mp h
  obtain ⟨h13, h⟩ := List.forall_mem_append.mp h
  have h14 := h
  exact (av_brP (av_brP (av_brP (av_lqP h0) (av_brP (av_lqP h1) (av_lqP h2))) (av_brP (av_brP (av_lqP h3) (av_lqP h4)) (av_brP (av_lqP h5) (av_lqP h6)))) (av_brP (av_brP (av_brP (av_lqP h7) (av_lqP h8)) (av_brP (av_lqP h9) (av_lqP h10))) (av_brP (av_brP (av_lqP h11) (av_lqP h12)) (av_brP (av_lqP h13) (av_lqP h14)))))
def cl_186_0 : List (Nat × av_E) := [(0, av_q (.aload_n 0)), (1, av_q (.iload_n 1)), (2, av_qc (.invokevirtual 299) 149 1 0 8), (5, av_qa (.ifCond .eq 15) 20), (8, av_q (.aload_n 0)), (9, av_q (.iload_n 2))]
def cl_186_1 : List (Nat × av_E) := [(10, av_qc (.invokevirtual 345) 150 1 0 8), (13, av_qa (.ifCond .eq 7) 20), (16, av_q (.iload_n 3)), (17, av_qa (.ifCond .ge 5) 22), (20, av_q (.iconst 0)), (21, av_qa (.ireturn) 1)]
def cl_186_2 : List (Nat × av_E) := [(22, av_q (.aload_n 0)), (23, av_q (.iload_n 2)), (24, av_q (.iconst 0)), (25, av_qc (.invokevirtual 348) 159 2 0 8), (28, av_q (.aload_n 0)), (29, av_q (.iload_n 1))]
def cl_186_3 : List (Nat × av_E) := [(30, av_qc (.invokevirtual 440) 185 1 0 8), (33, av_q (.aload_n 0)), (34, av_qc (.invokevirtual 427) 164 0 0 8), (37, av_qa (.ifCond .eq 11) 48), (40, av_q (.iload_n 3)), (41, av_q (.aload_n 0))]
def cl_186_4 : List (Nat × av_E) := [(42, av_qf (.getfield 357) 8 29 0), (45, av_qa (.if_icmp .lt 5) 50), (48, av_q (.iconst 0)), (49, av_qa (.ireturn) 1), (50, av_q (.aload_n 0)), (51, av_q (.iload_n 3))]
def cl_186_5 : List (Nat × av_E) := [(52, av_qc (.invokevirtual 431) 181 1 0 8), (55, av_q (.iconst 1)), (56, av_qa (.ireturn) 1)]
def cf_186 : Nat → Option av_E := (av_br 29 (av_br 9 (av_lq cl_186_0) (av_br 21 (av_lq cl_186_1) (av_lq cl_186_2))) (av_br 41 (av_lq cl_186_3) (av_br 51 (av_lq cl_186_4) (av_lq cl_186_5))))
set_option maxRecDepth 100000 in
set_option maxHeartbeats 4000000 in
theorem ck_186 : ∀ (pc : Nat) (x : av_E), cf_186 pc = some x → cd_186.lookup pc = some x := by
  have h : ∀ q ∈ cl_186_0 ++ (cl_186_1 ++ (cl_186_2 ++ (cl_186_3 ++ (cl_186_4 ++ (cl_186_5))))), cd_186.lookup q.1 = some q.2 := av_ascQ (cd := cd_186) (by decide +kernel)
  obtain ⟨h0, h⟩ := List.forall_mem_append.mp h
  obtain ⟨h1, h⟩ := List.forall_mem_append.mp h
  obtain ⟨h2, h⟩ := List.forall_mem_append.mp h
  obtain ⟨h3, h⟩ := List.forall_mem_append.mp h
  obtain ⟨h4, h⟩ := List.forall_mem_append.mp h
  have h5 := h
  exact (av_brP (av_brP (av_lqP h0) (av_brP (av_lqP h1) (av_lqP h2))) (av_brP (av_lqP h3) (av_brP (av_lqP h4) (av_lqP h5))))
def cl_187_0 : List (Nat × av_E) := [(0, av_q (.aload_n 0)), (1, av_q (.iload_n 1)), (2, av_qc (.invokevirtual 299) 149 1 0 8), (5, av_qa (.ifCond .eq 12) 17), (8, av_q (.iload_n 2)), (9, av_q (.iconst 0))]
def cl_187_1 : List (Nat × av_E) := [(10, av_q (.iconst 2)), (11, av_qc (.invokestatic 176) 127 3 2 8), (14, av_qa (.ifCond .ne 6) 20), (17, av_q (.bipush (-2))), (19, av_q (.ireturn)), (20, av_q (.aload_n 0))]
def cl_187_2 : List (Nat × av_E) := [(21, av_q (.iload_n 1)), (22, av_qc (.invokevirtual 443) 188 1 0 8), (25, av_q (.iload_n 2)), (26, av_qa (.ifCond .ne 10) 36), (29, av_q (.aload_n 0)), (30, av_qf (.getfield 351) 8 27 0)]
def cl_187_3 : List (Nat × av_E) := [(33, av_qa (.goto 30) 63), (36, av_q (.iload_n 2)), (37, av_q (.iconst 1)), (38, av_qa (.if_icmp .ne 10) 48), (41, av_q (.aload_n 0)), (42, av_qf (.getfield 354) 8 28 0)]
def cl_187_4 : List (Nat × av_E) := [(45, av_qa (.goto 18) 63), (48, av_q (.aload_n 0)), (49, av_qc (.invokevirtual 427) 164 0 0 8), (52, av_qa (.ifCond .eq 10) 62), (55, av_q (.aload_n 0)), (56, av_qf (.getfield 357) 8 29 0)]
def cl_187_5 : List (Nat × av_E) := [(59, av_qa (.goto 4) 63), (62, av_q (.iconst (-1))), (63, av_q (.ireturn))]
def cf_187 : Nat → Option av_E := (av_br 30 (av_br 9 (av_lq cl_187_0) (av_br 20 (av_lq cl_187_1) (av_lq cl_187_2))) (av_br 42 (av_lq cl_187_3) (av_br 56 (av_lq cl_187_4) (av_lq cl_187_5))))
set_option maxRecDepth 100000 in
set_option maxHeartbeats 4000000 in
theorem ck_187 : ∀ (pc : Nat) (x : av_E), cf_187 pc = some x → cd_187.lookup pc = some x := by
  have h : ∀ q ∈ cl_187_0 ++ (cl_187_1 ++ (cl_187_2 ++ (cl_187_3 ++ (cl_187_4 ++ (cl_187_5))))), cd_187.lookup q.1 = some q.2 := av_ascQ (cd := cd_187) (by decide +kernel)
  obtain ⟨h0, h⟩ := List.forall_mem_append.mp h
  obtain ⟨h1, h⟩ := List.forall_mem_append.mp h
  obtain ⟨h2, h⟩ := List.forall_mem_append.mp h
  obtain ⟨h3, h⟩ := List.forall_mem_append.mp h
  obtain ⟨h4, h⟩ := List.forall_mem_append.mp h
  have h5 := h
  exact (av_brP (av_brP (av_lqP h0) (av_brP (av_lqP h1) (av_lqP h2))) (av_brP (av_lqP h3) (av_brP (av_lqP h4) (av_lqP h5))))
def cl_188_0 : List (Nat × av_E) := [(0, av_q (.iconst 0)), (1, av_q (.istore_n 2)), (2, av_q (.iload_n 2)), (3, av_q (.bipush 16)), (5, av_qa (.if_icmp .ge 16) 21), (8, av_q (.aload_n 0))]
def cl_188_1 : List (Nat × av_E) := [(9, av_qf (.getfield 130) 8 54 2), (12, av_q (.iload_n 2)), (13, av_q (.iconst 0)), (14, av_q (.bastore)), (15, av_q (.iinc 2 1)), (18, av_qa (.goto (-16)) 2)]
def cl_188_2 : List (Nat × av_E) := [(21, av_q (.aload_n 0)), (22, av_q (.iload_n 1)), (23, av_qc (.invokevirtual 434) 162 1 0 8), (26, av_q (.aload_n 0)), (27, av_qc (.invokevirtual 424) 163 0 0 8), (30, av_q (.return_))]
def cf_188 : Nat → Option av_E := (av_br 8 (av_lq cl_188_0) (av_br 18 (av_lq cl_188_1) (av_lq cl_188_2)))
set_option maxRecDepth 100000 in
set_option maxHeartbeats 4000000 in
theorem ck_188 : ∀ (pc : Nat) (x : av_E), cf_188 pc = some x → cd_188.lookup pc = some x := by
  have h : ∀ q ∈ cl_188_0 ++ (cl_188_1 ++ (cl_188_2)), cd_188.lookup q.1 = some q.2 := av_ascQ (cd := cd_188) (by decide +kernel)
  obtain ⟨h0, h⟩ := List.forall_mem_append.mp h
  obtain ⟨h1, h⟩ := List.forall_mem_append.mp h
  have h2 := h
  exact (av_brP (av_lqP h0) (av_brP (av_lqP h1) (av_lqP h2)))
def cl_189_0 : List (Nat × av_E) := [(0, av_q (.aload_n 0)), (1, av_q (.iload_n 1)), (2, av_qc (.invokevirtual 299) 149 1 0 8), (5, av_qa (.ifCond .eq 17) 22), (8, av_q (.iload_n 2)), (9, av_qa (.ifCond .lt 13) 22)]
def cl_189_1 : List (Nat × av_E) := [(12, av_q (.iload 4)), (14, av_q (.iconst 0)), (15, av_q (.iconst 2)), (16, av_qc (.invokestatic 176) 127 3 2 8), (19, av_qa (.ifCond .ne 6) 25), (22, av_q (.bipush (-2)))]
def cl_189_2 : List (Nat × av_E) := [(24, av_q (.ireturn)), (25, av_q (.aload_n 0)), (26, av_q (.iload_n 1)), (27, av_qc (.invokevirtual 443) 188 1 0 8), (30, av_q (.aload_n 0)), (31, av_qc (.invokevirtual 427) 164 0 0 8)]
def cl_189_3 : List (Nat × av_E) := [(34, av_qa (.ifCond .eq 23) 57), (37, av_q (.iload_n 2)), (38, av_q (.aload_n 0)), (39, av_qf (.getfield 357) 8 29 0), (42, av_qa (.if_icmp .ge 15) 57), (45, av_q (.iload_n 3))]
def cl_189_4 : List (Nat × av_E) := [(46, av_qa (.ifCond .lt 11) 57), (49, av_q (.iload_n 3)), (50, av_q (.aload_n 0)), (51, av_qf (.getfield 351) 8 27 0), (54, av_qa (.if_icmp .lt 6) 60), (57, av_q (.bipush (-2)))]
def cl_189_5 : List (Nat × av_E) := [(59, av_q (.ireturn)), (60, av_q (.aload_n 0)), (61, av_q (.iload_n 2)), (62, av_qc (.invokevirtual 412) 165 1 0 8), (65, av_q (.aload_n 0)), (66, av_q (.iload_n 3))]
def cl_189_6 : List (Nat × av_E) := [(67, av_q (.iload 4)), (69, av_qc (.invokevirtual 363) 166 2 0 8), (72, av_q (.ireturn))]
def cf_189 : Nat → Option av_E := (av_br 31 (av_br 9 (av_lq cl_189_0) (av_br 22 (av_lq cl_189_1) (av_lq cl_189_2))) (av_br 57 (av_br 45 (av_lq cl_189_3) (av_lq cl_189_4)) (av_br 66 (av_lq cl_189_5) (av_lq cl_189_6))))
set_option maxRecDepth 100000 in
set_option maxHeartbeats 4000000 in
theorem ck_189 : ∀ (pc : Nat) (x : av_E), cf_189 pc = some x → cd_189.lookup pc = some x := by
  have h : ∀ q ∈ cl_189_0 ++ (cl_189_1 ++ (cl_189_2 ++ (cl_189_3 ++ (cl_189_4 ++ (cl_189_5 ++ (cl_189_6)))))), cd_189.lookup q.1 = some q.2 := av_ascQ (cd := cd_189) (by decide +kernel)
  obtain ⟨h0, h⟩ := List.forall_mem_append.mp h
  obtain ⟨h1, h⟩ := List.forall_mem_append.mp h
  obtain ⟨h2, h⟩ := List.forall_mem_append.mp h
  obtain ⟨h3, h⟩ := List.forall_mem_append.mp h
  obtain ⟨h4, h⟩ := List.forall_mem_append.mp h
  obtain ⟨h5, h⟩ := List.forall_mem_append.mp h
  have h6 := h
  exact (av_brP (av_brP (av_lqP h0) (av_brP (av_lqP h1) (av_lqP h2))) (av_brP (av_brP (av_lqP h3) (av_lqP h4)) (av_brP (av_lqP h5) (av_lqP h6))))
def cl_190_0 : List (Nat × av_E) := [(0, av_q (.iload 4)), (2, av_q (.iconst 0)), (3, av_q (.iconst 2)), (4, av_qc (.invokestatic 176) 127 3 2 8), (7, av_qa (.ifCond .ne 15) 22), (10, av_q (.iload 4))]
def cl_190_1 : List (Nat × av_E) := [(12, av_q (.bipush 10)), (14, av_q (.bipush 14)), (16, av_qc (.invokestatic 176) 127 3 2 8), (19, av_qa (.ifCond .eq 13) 32), (22, av_q (.aload_n 0)), (23, av_q (.iload_n 1))]
def cl_190_2 : List (Nat × av_E) := [(24, av_q (.iload_n 2)), (25, av_q (.iload_n 3)), (26, av_qc (.invokevirtual 446) 186 3 0 8), (29, av_qa (.ifCond .ne 6) 35), (32, av_q (.bipush (-3))), (34, av_q (.ireturn))]
def cl_190_3 : List (Nat × av_E) := [(35, av_q (.aload_n 0)), (36, av_qf (.getfield 381) 8 50 3), (39, av_qa (.ifCond .ne 6) 45), (42, av_q (.bipush (-2))), (44, av_q (.ireturn)), (45, av_q (.iload 4))]
def cl_190_4 : List (Nat × av_E) := [(47, av_qa (.ifCond .ne 10) 57), (50, av_q (.aload_n 0)), (51, av_qf (.getfield 387) 8 51 0), (54, av_qa (.goto 38) 92), (57, av_q (.iload 4)), (59, av_q (.iconst 1))]
def cl_190_5 : List (Nat × av_E) := [(60, av_qa (.if_icmp .ne 10) 70), (63, av_q (.aload_n 0)), (64, av_qf (.getfield 390) 8 52 0), (67, av_qa (.goto 25) 92), (70, av_q (.iload 4)), (72, av_q (.iconst 2))]
def cl_190_6 : List (Nat × av_E) := [(73, av_qa (.if_icmp .ne 10) 83), (76, av_q (.aload_n 0)), (77, av_qf (.getfield 384) 8 53 0), (80, av_qa (.goto 12) 92), (83, av_q (.aload_n 0)), (84, av_q (.iload 4))]
def cl_190_7 : List (Nat × av_E) := [(86, av_q (.bipush 10)), (88, av_q (.isub)), (89, av_qc (.invokevirtual 449) 183 1 0 8), (92, av_q (.ireturn))]
def cf_190 : Nat → Option av_E := (av_br 45 (av_br 23 (av_br 10 (av_lq cl_190_0) (av_lq cl_190_1)) (av_br 34 (av_lq cl_190_2) (av_lq cl_190_3))) (av_br 72 (av_br 59 (av_lq cl_190_4) (av_lq cl_190_5)) (av_br 84 (av_lq cl_190_6) (av_lq cl_190_7))))
set_option maxRecDepth 100000 in
set_option maxHeartbeats 4000000 in
theorem ck_190 : ∀ (pc : Nat) (x : av_E), cf_190 pc = some x → cd_190.lookup pc = some x := by
  have h : ∀ q ∈ cl_190_0 ++ (cl_190_1 ++ (cl_190_2 ++ (cl_190_3 ++ (cl_190_4 ++ (cl_190_5 ++ (cl_190_6 ++ (cl_190_7))))))), cd_190.lookup q.1 = some q.2 := av_ascQ (cd := cd_190) (by decide +kernel)
  obtain ⟨h0, h⟩ := List.forall_mem_append.mp h
  obtain ⟨h1, h⟩ := List.forall_mem_append.mp h
  obtain ⟨h2, h⟩ := List.forall_mem_append.mp h
  obtain ⟨h3, h⟩ := List.forall_mem_append.mp h
  obtain ⟨h4, h⟩ := List.forall_mem_append.mp h
  obtain ⟨h5, h⟩ := List.forall_mem_append.mp h
  obtain ⟨h6, h⟩ := List.forall_mem_append.mp h
  have h7 := h
  exact (av_brP (av_brP (av_brP (av_lqP h0) (av_lqP h1)) (av_brP (av_lqP h2) (av_lqP h3))) (av_brP (av_brP (av_lqP h4) (av_lqP h5)) (av_brP (av_lqP h6) (av_lqP h7))))
def cl_191_0 : List (Nat × av_E) := [(0, av_q (.iload 5)), (2, av_q (.iconst 0)), (3, av_q (.iconst 2)), (4, av_qc (.invokestatic 176) 127 3 2 8), (7, av_qa (.ifCond .eq 36) 43), (10, av_q (.aload_n 0))]
def cl_191_1 : List (Nat × av_E) := [(11, av_q (.iload_n 1)), (12, av_q (.iload_n 2)), (13, av_q (.iload_n 3)), (14, av_qc (.invokevirtual 446) 186 3 0 8), (17, av_qa (.ifCond .eq 26) 43), (20, av_q (.iload 4))]
def cl_191_2 : List (Nat × av_E) := [(22, av_qa (.ifCond .lt 21) 43), (25, av_q (.iload 4)), (27, av_q (.aload_n 0)), (28, av_qf (.getfield 351) 8 27 0), (31, av_qa (.if_icmp .ge 12) 43), (34, av_q (.aload_n 0))]
def cl_191_3 : List (Nat × av_E) := [(35, av_q (.iload 4)), (37, av_qc (.invokevirtual 369) 168 1 0 8), (40, av_qa (.ifCond .ne 6) 46), (43, av_q (.bipush (-2))), (45, av_q (.ireturn)), (46, av_q (.iload 5))]
def cl_191_4 : List (Nat × av_E) := [(48, av_qa (.ifCond .ne 13) 61), (51, av_q (.aload_n 0)), (52, av_qf (.getfield 121) 8 47 2), (55, av_q (.iload 4)), (57, av_q (.iaload)), (58, av_qa (.goto 26) 84)]
def cl_191_5 : List (Nat × av_E) := [(61, av_q (.iload 5)), (63, av_q (.iconst 1)), (64, av_qa (.if_icmp .ne 13) 77), (67, av_q (.aload_n 0)), (68, av_qf (.getfield 124) 8 48 2), (71, av_q (.iload 4))]
def cl_191_6 : List (Nat × av_E) := [(73, av_q (.iaload)), (74, av_qa (.goto 10) 84), (77, av_q (.aload_n 0)), (78, av_qf (.getfield 127) 8 49 2), (81, av_q (.iload 4)), (83, av_q (.iaload))]
def cl_191_7 : List (Nat × av_E) := [(84, av_q (.ireturn))]
def cf_191 : Nat → Option av_E := (av_br 46 (av_br 20 (av_br 10 (av_lq cl_191_0) (av_lq cl_191_1)) (av_br 34 (av_lq cl_191_2) (av_lq cl_191_3))) (av_br 71 (av_br 58 (av_lq cl_191_4) (av_lq cl_191_5)) (av_br 83 (av_lq cl_191_6) (av_lq cl_191_7))))
set_option maxRecDepth 100000 in
set_option maxHeartbeats 4000000 in
theorem ck_191 : ∀ (pc : Nat) (x : av_E), cf_191 pc = some x → cd_191.lookup pc = some x := by
  have h : ∀ q ∈ cl_191_0 ++ (cl_191_1 ++ (cl_191_2 ++ (cl_191_3 ++ (cl_191_4 ++ (cl_191_5 ++ (cl_191_6 ++ (cl_191_7))))))), cd_191.lookup q.1 = some q.2 := av_ascQ (cd := cd_191) (by decide +kernel)
  obtain ⟨h0, h⟩ := List.forall_mem_append.mp h
  obtain ⟨h1, h⟩ := List.forall_mem_append.mp h
  obtain ⟨h2, h⟩ := List.forall_mem_append.mp h
  obtain ⟨h3, h⟩ := List.forall_mem_append.mp h
  obtain ⟨h4, h⟩ := List.forall_mem_append.mp h
  obtain ⟨h5, h⟩ := List.forall_mem_append.mp h
  obtain ⟨h6, h⟩ := List.forall_mem_append.mp h
  have h7 := h
  exact (av_brP (av_brP (av_brP (av_lqP h0) (av_lqP h1)) (av_brP (av_lqP h2) (av_lqP h3))) (av_brP (av_brP (av_lqP h4) (av_lqP h5)) (av_brP (av_lqP h6) (av_lqP h7))))
def cl_192_0 : List (Nat × av_E) := [(0, av_q (.aload_n 0)), (1, av_q (.iload_n 1)), (2, av_q (.iload_n 2)), (3, av_q (.iload_n 3)), (4, av_qc (.invokevirtual 446) 186 3 0 8), (7, av_qa (.ifCond .ne 6) 13)]
def cl_192_1 : List (Nat × av_E) := [(10, av_q (.bipush (-2))), (12, av_q (.ireturn)), (13, av_q (.aload_n 0)), (14, av_qf (.getfield 381) 8 50 3), (17, av_qa (.ifCond .eq 29) 46), (20, av_q (.iconst 1))]
def cl_192_2 : List (Nat × av_E) := [(21, av_q (.aload_n 0)), (22, av_qf (.getfield 84) 8 35 2), (25, av_q (.aload_n 0)), (26, av_qf (.getfield 390) 8 52 0), (29, av_q (.iaload)), (30, av_q (.ishl))]
def cl_192_3 : List (Nat × av_E) := [(31, av_q (.iconst 1)), (32, av_q (.aload_n 0)), (33, av_qf (.getfield 87) 8 36 2), (36, av_q (.aload_n 0)), (37, av_qf (.getfield 390) 8 52 0), (40, av_q (.iaload))]
def cl_192_4 : List (Nat × av_E) := [(41, av_q (.ishl)), (42, av_q (.ior)), (43, av_qa (.goto 4) 47), (46, av_q (.iconst 0)), (47, av_q (.ireturn))]
def cf_192 : Nat → Option av_E := (av_br 20 (av_br 7 (av_lq cl_192_0) (av_lq cl_192_1)) (av_br 30 (av_lq cl_192_2) (av_br 40 (av_lq cl_192_3) (av_lq cl_192_4))))
set_option maxRecDepth 100000 in
set_option maxHeartbeats 4000000 in
theorem ck_192 : ∀ (pc : Nat) (x : av_E), cf_192 pc = some x → cd_192.lookup pc = some x := by
  have h : ∀ q ∈ cl_192_0 ++ (cl_192_1 ++ (cl_192_2 ++ (cl_192_3 ++ (cl_192_4)))), cd_192.lookup q.1 = some q.2 := av_ascQ (cd := cd_192) (by decide +kernel)
  obtain ⟨h0, h⟩ := List.forall_mem_append.mp h
  obtain ⟨h1, h⟩ := List.forall_mem_append.mp h
  obtain ⟨h2, h⟩ := List.forall_mem_append.mp h
  obtain ⟨h3, h⟩ := List.forall_mem_append.mp h
  have h4 := h
  exact (av_brP (av_brP (av_lqP h0) (av_lqP h1)) (av_brP (av_lqP h2) (av_brP (av_lqP h3) (av_lqP h4))))
def cl_193_0 : List (Nat × av_E) := [(0, av_q (.iload_n 3)), (1, av_q (.iconst 0)), (2, av_q (.iconst 4)), (3, av_qc (.invokestatic 176) 127 3 2 8), (6, av_qa (.ifCond .eq 13) 19), (9, av_q (.aload_n 0))]
def cl_193_1 : List (Nat × av_E) := [(10, av_q (.iload_n 1)), (11, av_q (.iload_n 2)), (12, av_q (.iconst 0)), (13, av_qc (.invokevirtual 446) 186 3 0 8), (16, av_qa (.ifCond .ne 6) 22), (19, av_q (.bipush (-2)))]
def cl_193_2 : List (Nat × av_E) := [(21, av_q (.ireturn)), (22, av_q (.iconst 0)), (23, av_q (.istore 4)), (25, av_q (.iconst (-1))), (26, av_q (.istore 5)), (28, av_q (.iconst (-1)))]
def cl_193_3 : List (Nat × av_E) := [(29, av_q (.istore 6)), (31, av_q (.iconst (-1))), (32, av_q (.istore 7)), (34, av_q (.iconst (-1))), (35, av_q (.istore 8)), (37, av_q (.iconst 0))]
def cl_193_4 : List (Nat × av_E) := [(38, av_q (.istore 9)), (40, av_q (.iload 9)), (42, av_q (.aload_n 0)), (43, av_qf (.getfield 357) 8 29 0), (46, av_qa (.if_icmp .ge 81) 127), (49, av_q (.aload_n 0))]
def cl_193_5 : List (Nat × av_E) := [(50, av_q (.iload 9)), (52, av_qc (.invokevirtual 431) 181 1 0 8), (55, av_q (.aload_n 0)), (56, av_qf (.getfield 381) 8 50 3), (59, av_qa (.ifCond .ne 15) 74), (62, av_q (.iload 6))]
def cl_193_6 : List (Nat × av_E) := [(64, av_qa (.ifCond .ge 57) 121), (67, av_q (.iload 9)), (69, av_q (.istore 6)), (71, av_qa (.goto 50) 121), (74, av_q (.iinc 4 1)), (77, av_q (.iload 5))]
def cl_193_7 : List (Nat × av_E) := [(79, av_qa (.ifCond .ge 7) 86), (82, av_q (.iload 9)), (84, av_q (.istore 5)), (86, av_q (.iload 7)), (88, av_qa (.ifCond .lt 12) 100), (91, av_q (.aload_n 0))]
def cl_193_8 : List (Nat × av_E) := [(92, av_qf (.getfield 384) 8 53 0), (95, av_q (.iload 7)), (97, av_qa (.if_icmp .ge 9) 106), (100, av_q (.aload_n 0)), (101, av_qf (.getfield 384) 8 53 0), (104, av_q (.istore 7))]
def cl_193_9 : List (Nat × av_E) := [(106, av_q (.aload_n 0)), (107, av_qf (.getfield 384) 8 53 0), (110, av_q (.iload 8)), (112, av_qa (.if_icmp .le 9) 121), (115, av_q (.aload_n 0)), (116, av_qf (.getfield 384) 8 53 0)]
def cl_193_10 : List (Nat × av_E) := [(119, av_q (.istore 8)), (121, av_q (.iinc 9 1)), (124, av_qa (.goto (-84)) 40), (127, av_q (.iload_n 3)), (128, av_qa (.ifCond .ne 8) 136), (131, av_q (.iload 4))]
def cl_193_11 : List (Nat × av_E) := [(133, av_qa (.goto 35) 168), (136, av_q (.iload_n 3)), (137, av_q (.iconst 1)), (138, av_qa (.if_icmp .ne 8) 146), (141, av_q (.iload 5)), (143, av_qa (.goto 25) 168)]
def cl_193_12 : List (Nat × av_E) := [(146, av_q (.iload_n 3)), (147, av_q (.iconst 2)), (148, av_qa (.if_icmp .ne 8) 156), (151, av_q (.iload 6)), (153, av_qa (.goto 15) 168), (156, av_q (.iload_n 3))]
def cl_193_13 : List (Nat × av_E) := [(157, av_q (.iconst 3)), (158, av_qa (.if_icmp .ne 8) 166), (161, av_q (.iload 7)), (163, av_qa (.goto 5) 168), (166, av_q (.iload 8)), (168, av_q (.ireturn))]
def cf_193 : Nat → Option av_E := (av_br 77 (av_br 28 (av_br 9 (av_lq cl_193_0) (av_br 19 (av_lq cl_193_1) (av_lq cl_193_2))) (av_br 49 (av_br 37 (av_lq cl_193_3) (av_lq cl_193_4)) (av_br 62 (av_lq cl_193_5) (av_lq cl_193_6)))) (av_br 116 (av_br 91 (av_lq cl_193_7) (av_br 104 (av_lq cl_193_8) (av_lq cl_193_9))) (av_br 143 (av_br 131 (av_lq cl_193_10) (av_lq cl_193_11)) (av_br 156 (av_lq cl_193_12) (av_lq cl_193_13)))))
set_option maxRecDepth 100000 in
set_option maxHeartbeats 4000000 in
theorem ck_193 : ∀ (pc : Nat) (x : av_E), cf_193 pc = some x → cd_193.lookup pc = some x := by
  have h : ∀ q ∈ cl_193_0 ++ (cl_193_1 ++ (cl_193_2 ++ (cl_193_3 ++ (cl_193_4 ++ (cl_193_5 ++ (cl_193_6 ++ (cl_193_7 ++ (cl_193_8 ++ (cl_193_9 ++ (cl_193_10 ++ (cl_193_11 ++ (cl_193_12 ++ (cl_193_13))))))))))))), cd_193.lookup q.1 = some q.2 := av_ascQ (cd := cd_193) (by decide +kernel)
  obtain ⟨h0, h⟩ := List.forall_mem_append.mp h
  obtain ⟨h1, h⟩ := List.forall_mem_append.mp h
  obtain ⟨h2, h⟩ := List.forall_mem_append.mp h
  obtain ⟨h3, h⟩ := List.forall_mem_append.mp h
  obtain ⟨h4, h⟩ := List.forall_mem_append.mp h
  obtain ⟨h5, h⟩ := List.forall_mem_append.mp h
  obtain ⟨h6, h⟩ := List.forall_mem_append.mp h
  obtain ⟨h7, h⟩ := List.forall_mem_append.mp h
  obtain ⟨h8, h⟩ := List.forall_mem_append.mp h
  obtain ⟨h9, h⟩ := List.forall_mem_append.mp h
  obtain ⟨h10, h⟩ := List.forall_mem_append.mp h
  obtain ⟨h11, h⟩ := List.forall_mem_append.mp h
  obtain ⟨h12, h⟩ := List.forall_mem_append.mp h
  have h13 := h
  exact (av_brP (av_brP (av_brP (av_lqP h0) (av_brP (av_lqP h1) (av_lqP h2))) (av_brP (av_brP (av_lqP h3) (av_lqP h4)) (av_brP (av_lqP h5) (av_lqP h6)))) (av_brP (av_brP (av_lqP h7) (av_brP (av_lqP h8) (av_lqP h9))) (av_brP (av_brP (av_lqP h10) (av_lqP h11)) (av_brP (av_lqP h12) (av_lqP h13)))))
def cl_194_0 : List (Nat × av_E) := [(0, av_q (.iconst 0)), (1, av_q (.istore_n 1)), (2, av_q (.iconst 0)), (3, av_q (.istore_n 2)), (4, av_q (.iload_n 2)), (5, av_q (.bipush 16))]
def cl_194_1 : List (Nat × av_E) := [(7, av_qa (.if_icmp .ge 17) 24), (10, av_q (.iload_n 1)), (11, av_q (.iload_n 0)), (12, av_q (.iload_n 2)), (13, av_q (.ishr)), (14, av_q (.iconst 1))]
def cl_194_2 : List (Nat × av_E) := [(15, av_q (.iand)), (16, av_q (.iadd)), (17, av_q (.istore_n 1)), (18, av_q (.iinc 2 1)), (21, av_qa (.goto (-17)) 4), (24, av_q (.iload_n 1))]
def cl_194_3 : List (Nat × av_E) := [(25, av_q (.ireturn))]
def cf_194 : Nat → Option av_E := (av_br 14 (av_br 5 (av_lq cl_194_0) (av_lq cl_194_1)) (av_br 24 (av_lq cl_194_2) (av_lq cl_194_3)))
set_option maxRecDepth 100000 in
set_option maxHeartbeats 4000000 in
theorem ck_194 : ∀ (pc : Nat) (x : av_E), cf_194 pc = some x → cd_194.lookup pc = some x := by
  have h : ∀ q ∈ cl_194_0 ++ (cl_194_1 ++ (cl_194_2 ++ (cl_194_3))), cd_194.lookup q.1 = some q.2 := av_ascQ (cd := cd_194) (by decide +kernel)
  obtain ⟨h0, h⟩ := List.forall_mem_append.mp h
  obtain ⟨h1, h⟩ := List.forall_mem_append.mp h
  obtain ⟨h2, h⟩ := List.forall_mem_append.mp h
  have h3 := h
  exact (av_brP (av_brP (av_lqP h0) (av_lqP h1)) (av_brP (av_lqP h2) (av_lqP h3)))
def cl_195_0 : List (Nat × av_E) := [(0, av_q (.iload_n 1)), (1, av_q (.istore_n 3)), (2, av_q (.iconst 0)), (3, av_q (.istore 4)), (5, av_q (.iconst 1)), (6, av_q (.istore 5))]
def cl_195_1 : List (Nat × av_E) := [(8, av_q (.iconst 0)), (9, av_q (.istore 6)), (11, av_q (.iload 6)), (13, av_q (.aload_n 0)), (14, av_qf (.getfield 354) 8 28 0), (17, av_qa (.if_icmp .ge 58) 75)]
def cl_195_2 : List (Nat × av_E) := [(20, av_q (.iload_n 2)), (21, av_q (.iload 6)), (23, av_q (.ishr)), (24, av_q (.iconst 1)), (25, av_q (.iand)), (26, av_q (.iconst 1))]
def cl_195_3 : List (Nat × av_E) := [(27, av_qa (.if_icmp .ne 32) 59), (30, av_q (.iload 4)), (32, av_q (.iload 5)), (34, av_q (.iload_n 3)), (35, av_q (.aload_n 0)), (36, av_qf (.getfield 106) 8 42 2)]
def cl_195_4 : List (Nat × av_E) := [(39, av_q (.iload 6)), (41, av_q (.iaload)), (42, av_q (.irem)), (43, av_q (.imul)), (44, av_q (.iadd)), (45, av_q (.istore 4))]
def cl_195_5 : List (Nat × av_E) := [(47, av_q (.iload 5)), (49, av_q (.aload_n 0)), (50, av_qf (.getfield 106) 8 42 2), (53, av_q (.iload 6)), (55, av_q (.iaload)), (56, av_q (.imul))]
def cl_195_6 : List (Nat × av_E) := [(57, av_q (.istore 5)), (59, av_q (.iload_n 3)), (60, av_q (.aload_n 0)), (61, av_qf (.getfield 106) 8 42 2), (64, av_q (.iload 6)), (66, av_q (.iaload))]
def cl_195_7 : List (Nat × av_E) := [(67, av_q (.idiv)), (68, av_q (.istore_n 3)), (69, av_q (.iinc 6 1)), (72, av_qa (.goto (-61)) 11), (75, av_q (.iload 4)), (77, av_q (.ireturn))]
def cf_195 : Nat → Option av_E := (av_br 36 (av_br 17 (av_br 6 (av_lq cl_195_0) (av_lq cl_195_1)) (av_br 26 (av_lq cl_195_2) (av_lq cl_195_3))) (av_br 56 (av_br 45 (av_lq cl_195_4) (av_lq cl_195_5)) (av_br 66 (av_lq cl_195_6) (av_lq cl_195_7))))
set_option maxRecDepth 100000 in
set_option maxHeartbeats 4000000 in
theorem ck_195 : ∀ (pc : Nat) (x : av_E), cf_195 pc = some x → cd_195.lookup pc = some x := by
  have h : ∀ q ∈ cl_195_0 ++ (cl_195_1 ++ (cl_195_2 ++ (cl_195_3 ++ (cl_195_4 ++ (cl_195_5 ++ (cl_195_6 ++ (cl_195_7))))))), cd_195.lookup q.1 = some q.2 := av_ascQ (cd := cd_195) (by decide +kernel)
  obtain ⟨h0, h⟩ := List.forall_mem_append.mp h
  obtain ⟨h1, h⟩ := List.forall_mem_append.mp h
  obtain ⟨h2, h⟩ := List.forall_mem_append.mp h
  obtain ⟨h3, h⟩ := List.forall_mem_append.mp h
  obtain ⟨h4, h⟩ := List.forall_mem_append.mp h
  obtain ⟨h5, h⟩ := List.forall_mem_append.mp h
  obtain ⟨h6, h⟩ := List.forall_mem_append.mp h
  have h7 := h
  exact (av_brP (av_brP (av_brP (av_lqP h0) (av_lqP h1)) (av_brP (av_lqP h2) (av_lqP h3))) (av_brP (av_brP (av_lqP h4) (av_lqP h5)) (av_brP (av_lqP h6) (av_lqP h7))))
def cl_196_0 : List (Nat × av_E) := [(0, av_q (.iconst 0)), (1, av_q (.istore_n 2)), (2, av_q (.iload_n 2)), (3, av_q (.sipush 1024)), (6, av_qa (.if_icmp .ge 16) 22), (9, av_q (.aload_n 0))]
def cl_196_1 : List (Nat × av_E) := [(10, av_qf (.getfield 139) 8 57 2), (13, av_q (.iload_n 2)), (14, av_q (.iconst 0)), (15, av_q (.iastore)), (16, av_q (.iinc 2 1)), (19, av_qa (.goto (-17)) 2)]
def cl_196_2 : List (Nat × av_E) := [(22, av_q (.iconst 0)), (23, av_q (.istore_n 2)), (24, av_q (.iload_n 2)), (25, av_q (.aload_n 0)), (26, av_qf (.getfield 357) 8 29 0), (29, av_qa (.if_icmp .ge 62) 91)]
def cl_196_3 : List (Nat × av_E) := [(32, av_q (.aload_n 0)), (33, av_q (.iload_n 2)), (34, av_q (.iload_n 1)), (35, av_qc (.invokevirtual 452) 195 2 0 8), (38, av_q (.istore_n 3)), (39, av_q (.aload_n 0))]
def cl_196_4 : List (Nat × av_E) := [(40, av_qf (.getfield 136) 8 56 2), (43, av_q (.iload_n 2)), (44, av_q (.baload)), (45, av_qa (.ifCond .eq 7) 52), (48, av_q (.iconst 2)), (49, av_qa (.goto 4) 53)]
def cl_196_5 : List (Nat × av_E) := [(52, av_q (.iconst 1)), (53, av_q (.istore 4)), (55, av_q (.aload_n 0)), (56, av_qf (.getfield 139) 8 57 2), (59, av_q (.iload_n 3)), (60, av_q (.iaload))]
def cl_196_6 : List (Nat × av_E) := [(61, av_qa (.ifCond .le 16) 77), (64, av_q (.aload_n 0)), (65, av_qf (.getfield 139) 8 57 2), (68, av_q (.iload_n 3)), (69, av_q (.iaload)), (70, av_q (.iload 4))]
def cl_196_7 : List (Nat × av_E) := [(72, av_qa (.if_icmp .eq 5) 77), (75, av_q (.iconst 0)), (76, av_qa (.ireturn) 1), (77, av_q (.aload_n 0)), (78, av_qf (.getfield 139) 8 57 2), (81, av_q (.iload_n 3))]
def cl_196_8 : List (Nat × av_E) := [(82, av_q (.iload 4)), (84, av_q (.iastore)), (85, av_q (.iinc 2 1)), (88, av_qa (.goto (-64)) 24), (91, av_q (.iconst 1)), (92, av_qa (.ireturn) 1)]
def cf_196 : Nat → Option av_E := (av_br 39 (av_br 19 (av_br 9 (av_lq cl_196_0) (av_lq cl_196_1)) (av_br 29 (av_lq cl_196_2) (av_lq cl_196_3))) (av_br 60 (av_br 49 (av_lq cl_196_4) (av_lq cl_196_5)) (av_br 70 (av_lq cl_196_6) (av_br 81 (av_lq cl_196_7) (av_lq cl_196_8)))))
set_option maxRecDepth 100000 in
set_option maxHeartbeats 4000000 in
theorem ck_196 : ∀ (pc : Nat) (x : av_E), cf_196 pc = some x → cd_196.lookup pc = some x := by
  have h : ∀ q ∈ cl_196_0 ++ (cl_196_1 ++ (cl_196_2 ++ (cl_196_3 ++ (cl_196_4 ++ (cl_196_5 ++ (cl_196_6 ++ (cl_196_7 ++ (cl_196_8)))))))), cd_196.lookup q.1 = some q.2 := av_ascQ (cd := cd_196) (by decide +kernel)
  obtain ⟨h0, h⟩ := List.forall_mem_append.mp h
  obtain ⟨h1, h⟩ := List.forall_mem_append.mp h
  obtain ⟨h2, h⟩ := List.forall_mem_append.mp h
  obtain ⟨h3, h⟩ := List.forall_mem_append.mp h
  obtain ⟨h4, h⟩ := List.forall_mem_append.mp h
  obtain ⟨h5, h⟩ := List.forall_mem_append.mp h
  obtain ⟨h6, h⟩ := List.forall_mem_append.mp h
  obtain ⟨h7, h⟩ := List.forall_mem_append.mp h
  have h8 := h
  exact (av_brP (av_brP (av_brP (av_lqP h0) (av_lqP h1)) (av_brP (av_lqP h2) (av_lqP h3))) (av_brP (av_brP (av_lqP h4) (av_lqP h5)) (av_brP (av_lqP h6) (av_brP (av_lqP h7) (av_lqP h8)))))
def cl_197_0 : List (Nat × av_E) := [(0, av_q (.aload_n 0)), (1, av_q (.iload_n 1)), (2, av_q (.iload_n 2)), (3, av_q (.iconst 0)), (4, av_qc (.invokevirtual 446) 186 3 0 8), (7, av_qa (.ifCond .eq 12) 19)]
def cl_197_1 : List (Nat × av_E) := [(10, av_q (.aload_n 0)), (11, av_qf (.getfield 354) 8 28 0), (14, av_q (.bipush 12)), (16, av_qa (.if_icmp .le 6) 22), (19, av_q (.bipush (-2))), (21, av_q (.ireturn))]
def cl_197_2 : List (Nat × av_E) := [(22, av_q (.iconst 0)), (23, av_q (.istore_n 3)), (24, av_q (.iload_n 3)), (25, av_q (.aload_n 0)), (26, av_qf (.getfield 357) 8 29 0), (29, av_qa (.if_icmp .ge 24) 53)]
def cl_197_3 : List (Nat × av_E) := [(32, av_q (.aload_n 0)), (33, av_q (.iload_n 3)), (34, av_qc (.invokevirtual 431) 181 1 0 8), (37, av_q (.aload_n 0)), (38, av_qf (.getfield 136) 8 56 2), (41, av_q (.iload_n 3))]
def cl_197_4 : List (Nat × av_E) := [(42, av_q (.aload_n 0)), (43, av_qf (.getfield 381) 8 50 3), (46, av_q (.bastore)), (47, av_q (.iinc 3 1)), (50, av_qa (.goto (-26)) 24), (53, av_q (.iconst (-1)))]
def cl_197_5 : List (Nat × av_E) := [(54, av_q (.istore_n 3)), (55, av_q (.iconst 0)), (56, av_q (.istore 4)), (58, av_q (.iload 4)), (60, av_q (.iconst 1)), (61, av_q (.aload_n 0))]
def cl_197_6 : List (Nat × av_E) := [(62, av_qf (.getfield 354) 8 28 0), (65, av_q (.ishl)), (66, av_qa (.if_icmp .ge 37) 103), (69, av_q (.iload_n 3)), (70, av_qa (.ifCond .lt 15) 85), (73, av_q (.iload 4))]
def cl_197_7 : List (Nat × av_E) := [(75, av_qc (.invokestatic 455) 194 1 2 8), (78, av_q (.iload_n 3)), (79, av_qc (.invokestatic 455) 194 1 2 8), (82, av_qa (.if_icmp .ge 15) 97), (85, av_q (.aload_n 0)), (86, av_q (.iload 4))]
def cl_197_8 : List (Nat × av_E) := [(88, av_qc (.invokevirtual 458) 196 1 0 8), (91, av_qa (.ifCond .eq 6) 97), (94, av_q (.iload 4)), (96, av_q (.istore_n 3)), (97, av_q (.iinc 4 1)), (100, av_qa (.goto (-42)) 58)]
def cl_197_9 : List (Nat × av_E) := [(103, av_q (.iload_n 3)), (104, av_q (.ireturn))]
def cf_197 : Nat → Option av_E := (av_br 53 (av_br 21 (av_br 7 (av_lq cl_197_0) (av_lq cl_197_1)) (av_br 29 (av_lq cl_197_2) (av_br 41 (av_lq cl_197_3) (av_lq cl_197_4)))) (av_br 73 (av_br 61 (av_lq cl_197_5) (av_lq cl_197_6)) (av_br 86 (av_lq cl_197_7) (av_br 100 (av_lq cl_197_8) (av_lq cl_197_9)))))
set_option maxRecDepth 100000 in
set_option maxHeartbeats 4000000 in
theorem ck_197 : ∀ (pc : Nat) (x : av_E), cf_197 pc = some x → cd_197.lookup pc = some x := by
  have h : ∀ q ∈ cl_197_0 ++ (cl_197_1 ++ (cl_197_2 ++ (cl_197_3 ++ (cl_197_4 ++ (cl_197_5 ++ (cl_197_6 ++ (cl_197_7 ++ (cl_197_8 ++ (cl_197_9))))))))), cd_197.lookup q.1 = some q.2 := av_ascQ (cd := cd_197) (by decide +kernel)
  obtain ⟨h0, h⟩ := List.forall_mem_append.mp h
  obtain ⟨h1, h⟩ := List.forall_mem_append.mp h
  obtain ⟨h2, h⟩ := List.forall_mem_append.mp h
  obtain ⟨h3, h⟩ := List.forall_mem_append.mp h
  obtain ⟨h4, h⟩ := List.forall_mem_append.mp h
  obtain ⟨h5, h⟩ := List.forall_mem_append.mp h
  obtain ⟨h6, h⟩ := List.forall_mem_append.mp h
  obtain ⟨h7, h⟩ := List.forall_mem_append.mp h
  obtain ⟨h8, h⟩ := List.forall_mem_append.mp h
  have h9 := h
  exact (av_brP (av_brP (av_brP (av_lqP h0) (av_lqP h1)) (av_brP (av_lqP h2) (av_brP (av_lqP h3) (av_lqP h4)))) (av_brP (av_brP (av_lqP h5) (av_lqP h6)) (av_brP (av_lqP h7) (av_brP (av_lqP h8) (av_lqP h9)))))
def cl_198_0 : List (Nat × av_E) := [(0, av_q (.iload 4)), (2, av_qa (.ifCond .lt 13) 15), (5, av_q (.aload_n 0)), (6, av_q (.iload_n 1)), (7, av_q (.iload_n 2)), (8, av_q (.iload_n 3))]
def cl_198_1 : List (Nat × av_E) := [(9, av_qc (.invokevirtual 446) 186 3 0 8), (12, av_qa (.ifCond .ne 6) 18), (15, av_q (.bipush (-2))), (17, av_q (.ireturn)), (18, av_q (.aload_n 0)), (19, av_qf (.getfield 381) 8 50 3)]
def cl_198_2 : List (Nat × av_E) := [(22, av_qa (.ifCond .ne 5) 27), (25, av_q (.iconst (-1))), (26, av_q (.ireturn)), (27, av_q (.aload_n 0)), (28, av_qf (.getfield 66) 8 26 2), (31, av_q (.bipush 12))]
def cl_198_3 : List (Nat × av_E) := [(33, av_q (.iaload)), (34, av_qa (.ifCond .ne 10) 44), (37, av_q (.aload_n 0)), (38, av_qf (.getfield 384) 8 53 0), (41, av_qa (.goto 4) 45), (44, av_q (.iconst (-1)))]
def cl_198_4 : List (Nat × av_E) := [(45, av_q (.istore 5)), (47, av_q (.iconst 0)), (48, av_q (.istore 6)), (50, av_q (.iload 6)), (52, av_q (.aload_n 0)), (53, av_qf (.getfield 351) 8 27 0)]
def cl_198_5 : List (Nat × av_E) := [(56, av_qa (.if_icmp .ge 87) 143), (59, av_q (.aload_n 0)), (60, av_qf (.getfield 66) 8 26 2), (63, av_q (.bipush 12)), (65, av_q (.iaload)), (66, av_qa (.ifCond .le 77) 143)]
def cl_198_6 : List (Nat × av_E) := [(69, av_q (.aload_n 0)), (70, av_qf (.getfield 69) 8 30 2), (73, av_q (.iload 6)), (75, av_q (.iaload)), (76, av_q (.bipush 7)), (78, av_qa (.if_icmp .ne 35) 113)]
def cl_198_7 : List (Nat × av_E) := [(81, av_q (.aload_n 0)), (82, av_qf (.getfield 81) 8 34 2), (85, av_q (.iload 6)), (87, av_q (.iaload)), (88, av_q (.aload_n 0)), (89, av_qf (.getfield 390) 8 52 0)]
def cl_198_8 : List (Nat × av_E) := [(92, av_qa (.if_icmp .ne 21) 113), (95, av_q (.aload_n 0)), (96, av_q (.iload 6)), (98, av_q (.aload_n 0)), (99, av_qf (.getfield 66) 8 26 2), (102, av_q (.bipush 12))]
def cl_198_9 : List (Nat × av_E) := [(104, av_q (.iaload)), (105, av_q (.iconst 1)), (106, av_q (.isub)), (107, av_qc (.invokevirtual 363) 166 2 0 8), (110, av_qa (.goto 4) 114), (113, av_q (.iconst (-1)))]
def cl_198_10 : List (Nat × av_E) := [(114, av_q (.istore 7)), (116, av_q (.iload 7)), (118, av_qa (.ifCond .lt 19) 137), (121, av_q (.iload 5)), (123, av_qa (.ifCond .lt 10) 133), (126, av_q (.iload 7))]
def cl_198_11 : List (Nat × av_E) := [(128, av_q (.iload 5)), (130, av_qa (.if_icmp .ge 7) 137), (133, av_q (.iload 7)), (135, av_q (.istore 5)), (137, av_q (.iinc 6 1)), (140, av_qa (.goto (-90)) 50)]
def cl_198_12 : List (Nat × av_E) := [(143, av_q (.iload 5)), (145, av_qa (.ifCond .lt 18) 163), (148, av_q (.iload 5)), (150, av_q (.aload_n 0)), (151, av_qf (.getfield 384) 8 53 0), (154, av_qa (.if_icmp .ge 9) 163)]
def cl_198_13 : List (Nat × av_E) := [(157, av_q (.aload_n 0)), (158, av_qf (.getfield 384) 8 53 0), (161, av_q (.istore 5)), (163, av_q (.iload 5)), (165, av_qa (.ifCond .lt 22) 187), (168, av_q (.iload 4))]
def cl_198_14 : List (Nat × av_E) := [(170, av_q (.iload 5)), (172, av_qa (.if_icmp .lt 15) 187), (175, av_q (.aload_n 0)), (176, av_qf (.getfield 87) 8 36 2), (179, av_q (.aload_n 0)), (180, av_qf (.getfield 390) 8 52 0)]
def cl_198_15 : List (Nat × av_E) := [(183, av_q (.iaload)), (184, av_qa (.goto 12) 196), (187, av_q (.aload_n 0)), (188, av_qf (.getfield 84) 8 35 2), (191, av_q (.aload_n 0)), (192, av_qf (.getfield 390) 8 52 0)]
def cl_198_16 : List (Nat × av_E) := [(195, av_q (.iaload)), (196, av_q (.ireturn))]
def cf_198 : Nat → Option av_E := (av_br 89 (av_br 44 (av_br 19 (av_br 8 (av_lq cl_198_0) (av_lq cl_198_1)) (av_br 31 (av_lq cl_198_2) (av_lq cl_198_3))) (av_br 66 (av_br 53 (av_lq cl_198_4) (av_lq cl_198_5)) (av_br 78 (av_lq cl_198_6) (av_lq cl_198_7)))) (av_br 140 (av_br 113 (av_br 102 (av_lq cl_198_8) (av_lq cl_198_9)) (av_br 126 (av_lq cl_198_10) (av_lq cl_198_11))) (av_br 168 (av_br 154 (av_lq cl_198_12) (av_lq cl_198_13)) (av_br 180 (av_lq cl_198_14) (av_br 192 (av_lq cl_198_15) (av_lq cl_198_16))))))
set_option maxRecDepth 100000 in
set_option maxHeartbeats 4000000 in
theorem ck_198 : ∀ (pc : Nat) (x : av_E), cf_198 pc = some x → cd_198.lookup pc = some x := by
  have h : ∀ q ∈ cl_198_0 ++ (cl_198_1 ++ (cl_198_2 ++ (cl_198_3 ++ (cl_198_4 ++ (cl_198_5 ++ (cl_198_6 ++ (cl_198_7 ++ (cl_198_8 ++ (cl_198_9 ++ (cl_198_10 ++ (cl_198_11 ++ (cl_198_12 ++ (cl_198_13 ++ (cl_198_14 ++ (cl_198_15 ++ (cl_198_16)))))))))))))))), cd_198.lookup q.1 = some q.2 := av_ascQ (cd := cd_198) (by decide +kernel)
  obtain ⟨h0, h⟩ := List.forall_mem_append.mp h
  obtain ⟨h1, h⟩ := List.forall_mem_append.mp h
  obtain ⟨h2, h⟩ := List.forall_mem_append.mp h
  obtain ⟨h3, h⟩ := List.forall_mem_append.mp h
  obtain ⟨h4, h⟩ := List.forall_mem_append.mp h
  obtain ⟨h5, h⟩ := List.forall_mem_append.mp h
  obtain ⟨h6, h⟩ := List.forall_mem_append.mp h
  obtain ⟨h7, h⟩ := List.forall_mem_append.mp h
  obtain ⟨h8, h⟩ := List.forall_mem_append.mp h
  obtain ⟨h9, h⟩ := List.forall_mem_append.mp h
  obtain ⟨h10, h⟩ := List.forall_mem_append.mp h
  obtain ⟨h11, h⟩ := List.forall_mem_append.mp h
  obtain ⟨h12, h⟩ := List.forall_mem_append.mp h
  obtain ⟨h13, h⟩ := List.forall_mem_append.mp h
  obtain ⟨h14, h⟩ := List.forall_mem_append.mp h
  obtain ⟨h15, h⟩ := List.forall_mem_append.mp h
  have h16 := h
  exact (av_brP (av_brP (av_brP (av_brP (av_lqP h0) (av_lqP h1)) (av_brP (av_lqP h2) (av_lqP h3))) (av_brP (av_brP (av_lqP h4) (av_lqP h5)) (av_brP (av_lqP h6) (av_lqP h7)))) (av_brP (av_brP (av_brP (av_lqP h8) (av_lqP h9)) (av_brP (av_lqP h10) (av_lqP h11))) (av_brP (av_brP (av_lqP h12) (av_lqP h13)) (av_brP (av_lqP h14) (av_brP (av_lqP h15) (av_lqP h16))))))
def cl_199_0 : List (Nat × av_E) := [(0, av_q (.aload_n 0)), (1, av_q (.iload_n 1)), (2, av_q (.iload_n 2)), (3, av_q (.iload_n 3)), (4, av_qc (.invokevirtual 446) 186 3 0 8), (7, av_qa (.ifCond .ne 6) 13)]
def cl_199_1 : List (Nat × av_E) := [(10, av_q (.bipush (-2))), (12, av_q (.ireturn)), (13, av_q (.iload 4)), (15, av_q (.bipush (-2))), (17, av_qa (.if_icmp .eq 7) 24), (20, av_q (.iconst 1))]
def cl_199_2 : List (Nat × av_E) := [(21, av_qa (.goto 4) 25), (24, av_q (.iconst 0)), (25, av_q (.aload_n 0)), (26, av_qf (.getfield 381) 8 50 3), (29, av_qa (.if_icmp .eq 5) 34), (32, av_q (.iconst 0))]
def cl_199_3 : List (Nat × av_E) := [(33, av_q (.ireturn)), (34, av_q (.aload_n 0)), (35, av_qf (.getfield 381) 8 50 3), (38, av_qa (.ifCond .ne 5) 43), (41, av_q (.iconst (-1))), (42, av_q (.ireturn))]
def cl_199_4 : List (Nat × av_E) := [(43, av_q (.iload 4)), (45, av_q (.aload_n 0)), (46, av_qf (.getfield 387) 8 51 0), (49, av_qa (.if_icmp .eq 7) 56), (52, av_q (.iconst 1)), (53, av_qa (.goto 17) 70)]
def cl_199_5 : List (Nat × av_E) := [(56, av_q (.iload 5)), (58, av_q (.aload_n 0)), (59, av_qf (.getfield 384) 8 53 0), (62, av_qa (.if_icmp .eq 7) 69), (65, av_q (.iconst 2)), (66, av_qa (.goto 4) 70)]
def cl_199_6 : List (Nat × av_E) := [(69, av_q (.iconst (-1))), (70, av_q (.ireturn))]
def cf_199 : Nat → Option av_E := (av_br 32 (av_br 7 (av_lq cl_199_0) (av_br 20 (av_lq cl_199_1) (av_lq cl_199_2))) (av_br 53 (av_br 42 (av_lq cl_199_3) (av_lq cl_199_4)) (av_br 66 (av_lq cl_199_5) (av_lq cl_199_6))))
set_option maxRecDepth 100000 in
set_option maxHeartbeats 4000000 in
theorem ck_199 : ∀ (pc : Nat) (x : av_E), cf_199 pc = some x → cd_199.lookup pc = some x := by
  have h : ∀ q ∈ cl_199_0 ++ (cl_199_1 ++ (cl_199_2 ++ (cl_199_3 ++ (cl_199_4 ++ (cl_199_5 ++ (cl_199_6)))))), cd_199.lookup q.1 = some q.2 := av_ascQ (cd := cd_199) (by decide +kernel)
  obtain ⟨h0, h⟩ := List.forall_mem_append.mp h
  obtain ⟨h1, h⟩ := List.forall_mem_append.mp h
  obtain ⟨h2, h⟩ := List.forall_mem_append.mp h
  obtain ⟨h3, h⟩ := List.forall_mem_append.mp h
  obtain ⟨h4, h⟩ := List.forall_mem_append.mp h
  obtain ⟨h5, h⟩ := List.forall_mem_append.mp h
  have h6 := h
  exact (av_brP (av_brP (av_lqP h0) (av_brP (av_lqP h1) (av_lqP h2))) (av_brP (av_brP (av_lqP h3) (av_lqP h4)) (av_brP (av_lqP h5) (av_lqP h6))))
def cl_200_0 : List (Nat × av_E) := [(0, av_q (.aload_n 0)), (1, av_q (.iload_n 1)), (2, av_q (.iload_n 2)), (3, av_q (.iconst 0)), (4, av_qc (.invokevirtual 446) 186 3 0 8), (7, av_qa (.ifCond .ne 5) 12)]
def cl_200_1 : List (Nat × av_E) := [(10, av_q (.iconst 0)), (11, av_qa (.ireturn) 1), (12, av_q (.aload_n 0)), (13, av_q (.iconst 0)), (14, av_qf (.putfield 461) 8 60 0), (17, av_q (.aload_n 0))]
def cl_200_2 : List (Nat × av_E) := [(18, av_q (.iconst (-1))), (19, av_qf (.putfield 464) 8 61 0), (22, av_q (.iconst 0)), (23, av_q (.istore 4)), (25, av_q (.iload 4)), (27, av_q (.aload_n 0))]
def cl_200_3 : List (Nat × av_E) := [(28, av_qf (.getfield 357) 8 29 0), (31, av_qa (.if_icmp .ge 81) 112), (34, av_q (.aload_n 0)), (35, av_q (.iload 4)), (37, av_qc (.invokevirtual 431) 181 1 0 8), (40, av_q (.aload_n 0))]
def cl_200_4 : List (Nat × av_E) := [(41, av_qf (.getfield 142) 8 58 2), (44, av_q (.iload 4)), (46, av_q (.aload_n 0)), (47, av_qf (.getfield 381) 8 50 3), (50, av_qa (.ifCond .eq 10) 60), (53, av_q (.aload_n 0))]
def cl_200_5 : List (Nat × av_E) := [(54, av_qf (.getfield 384) 8 53 0), (57, av_qa (.goto 4) 61), (60, av_q (.iconst (-1))), (61, av_q (.iastore)), (62, av_q (.iconst 0)), (63, av_q (.istore 5))]
def cl_200_6 : List (Nat × av_E) := [(65, av_q (.iload 5)), (67, av_q (.iconst 5)), (68, av_qa (.if_icmp .ge 38) 106), (71, av_q (.aload_n 0)), (72, av_qf (.getfield 145) 8 59 2), (75, av_q (.iconst 5))]
def cl_200_7 : List (Nat × av_E) := [(76, av_q (.iload 4)), (78, av_q (.imul)), (79, av_q (.iload 5)), (81, av_q (.iadd)), (82, av_q (.aload_n 0)), (83, av_qf (.getfield 381) 8 50 3)]
def cl_200_8 : List (Nat × av_E) := [(86, av_qa (.ifCond .eq 12) 98), (89, av_q (.aload_n 0)), (90, av_q (.iload 5)), (92, av_qc (.invokevirtual 449) 183 1 0 8), (95, av_qa (.goto 4) 99), (98, av_q (.iconst (-1)))]
def cl_200_9 : List (Nat × av_E) := [(99, av_q (.iastore)), (100, av_q (.iinc 5 1)), (103, av_qa (.goto (-38)) 65), (106, av_q (.iinc 4 1)), (109, av_qa (.goto (-84)) 25), (112, av_q (.aload_n 0))]
def cl_200_10 : List (Nat × av_E) := [(113, av_q (.iload_n 3)), (114, av_q (.iconst 0)), (115, av_qc (.invokevirtual 348) 159 2 0 8), (118, av_q (.aload_n 0)), (119, av_q (.iload_n 1)), (120, av_qc (.invokevirtual 440) 185 1 0 8)]
def cl_200_11 : List (Nat × av_E) := [(123, av_q (.iconst 0)), (124, av_q (.istore 4)), (126, av_q (.iload 4)), (128, av_q (.aload_n 0)), (129, av_qf (.getfield 357) 8 29 0), (132, av_qa (.if_icmp .ge 133) 265)]
def cl_200_12 : List (Nat × av_E) := [(135, av_q (.aload_n 0)), (136, av_q (.iload 4)), (138, av_qc (.invokevirtual 431) 181 1 0 8), (141, av_q (.aload_n 0)), (142, av_qf (.getfield 142) 8 58 2), (145, av_q (.iload 4))]
def cl_200_13 : List (Nat × av_E) := [(147, av_q (.iaload)), (148, av_q (.aload_n 0)), (149, av_qf (.getfield 381) 8 50 3), (152, av_qa (.ifCond .eq 10) 162), (155, av_q (.aload_n 0)), (156, av_qf (.getfield 384) 8 53 0)]
def cl_200_14 : List (Nat × av_E) := [(159, av_qa (.goto 4) 163), (162, av_q (.iconst (-1))), (163, av_qa (.if_icmp .eq 7) 170), (166, av_q (.iconst 1)), (167, av_qa (.goto 4) 171), (170, av_q (.iconst 0))]
def cl_200_15 : List (Nat × av_E) := [(171, av_q (.istore 5)), (173, av_q (.iconst 0)), (174, av_q (.istore 6)), (176, av_q (.iload 6)), (178, av_q (.iconst 5)), (179, av_qa (.if_icmp .ge 49) 228)]
def cl_200_16 : List (Nat × av_E) := [(182, av_q (.aload_n 0)), (183, av_qf (.getfield 381) 8 50 3), (186, av_qa (.ifCond .eq 42) 228), (189, av_q (.iload 5)), (191, av_qa (.ifCond .ne 24) 215), (194, av_q (.aload_n 0))]
def cl_200_17 : List (Nat × av_E) := [(195, av_qf (.getfield 145) 8 59 2), (198, av_q (.iconst 5)), (199, av_q (.iload 4)), (201, av_q (.imul)), (202, av_q (.iload 6)), (204, av_q (.iadd))]
def cl_200_18 : List (Nat × av_E) := [(205, av_q (.iaload)), (206, av_q (.aload_n 0)), (207, av_q (.iload 6)), (209, av_qc (.invokevirtual 449) 183 1 0 8), (212, av_qa (.if_icmp .eq 7) 219), (215, av_q (.iconst 1))]
def cl_200_19 : List (Nat × av_E) := [(216, av_qa (.goto 4) 220), (219, av_q (.iconst 0)), (220, av_q (.istore 5)), (222, av_q (.iinc 6 1)), (225, av_qa (.goto (-49)) 176), (228, av_q (.iload 5))]
def cl_200_20 : List (Nat × av_E) := [(230, av_qa (.ifCond .ne 6) 236), (233, av_qa (.goto 26) 259), (236, av_q (.aload_n 0)), (237, av_q (.dup)), (238, av_qf (.getfield 461) 8 60 0), (241, av_q (.iconst 1))]
def cl_200_21 : List (Nat × av_E) := [(242, av_q (.iadd)), (243, av_qf (.putfield 461) 8 60 0), (246, av_q (.aload_n 0)), (247, av_qf (.getfield 464) 8 61 0), (250, av_qa (.ifCond .ge 9) 259), (253, av_q (.aload_n 0))]
def cl_200_22 : List (Nat × av_E) := [(254, av_q (.iload 4)), (256, av_qf (.putfield 464) 8 61 0), (259, av_q (.iinc 4 1)), (262, av_qa (.goto (-136)) 126), (265, av_q (.iconst 1)), (266, av_qa (.ireturn) 1)]
def cf_200 : Nat → Option av_E := (av_br 120 (av_br 53 (av_br 17 (av_br 7 (av_lq cl_200_0) (av_lq cl_200_1)) (av_br 27 (av_lq cl_200_2) (av_br 40 (av_lq cl_200_3) (av_lq cl_200_4)))) (av_br 83 (av_br 63 (av_lq cl_200_5) (av_br 75 (av_lq cl_200_6) (av_lq cl_200_7))) (av_br 98 (av_lq cl_200_8) (av_br 112 (av_lq cl_200_9) (av_lq cl_200_10))))) (av_br 194 (av_br 156 (av_br 132 (av_lq cl_200_11) (av_br 145 (av_lq cl_200_12) (av_lq cl_200_13))) (av_br 170 (av_lq cl_200_14) (av_br 179 (av_lq cl_200_15) (av_lq cl_200_16)))) (av_br 228 (av_br 204 (av_lq cl_200_17) (av_br 215 (av_lq cl_200_18) (av_lq cl_200_19))) (av_br 241 (av_lq cl_200_20) (av_br 253 (av_lq cl_200_21) (av_lq cl_200_22))))))
set_option maxRecDepth 100000 in
set_option maxHeartbeats 4000000 in
theorem ck_200 : ∀ (pc : Nat) (x : av_E), cf_200 pc = some x → cd_200.lookup pc = some x := by
  have h : ∀ q ∈ cl_200_0 ++ (cl_200_1 ++ (cl_200_2 ++ (cl_200_3 ++ (cl_200_4 ++ (cl_200_5 ++ (cl_200_6 ++ (cl_200_7 ++ (cl_200_8 ++ (cl_200_9 ++ (cl_200_10 ++ (cl_200_11 ++ (cl_200_12 ++ (cl_200_13 ++ (cl_200_14 ++ (cl_200_15 ++ (cl_200_16 ++ (cl_200_17 ++ (cl_200_18 ++ (cl_200_19 ++ (cl_200_20 ++ (cl_200_21 ++ (cl_200_22)))))))))))))))))))))), cd_200.lookup q.1 = some q.2 := av_ascQ (cd := cd_200) (by decide +kernel)
  obtain ⟨h0, h⟩ := List.forall_mem_append.mp h
  obtain ⟨h1, h⟩ := List.forall_mem_append.mp h
  obtain ⟨h2, h⟩ := List.forall_mem_append.mp h
  obtain ⟨h3, h⟩ := List.forall_mem_append.mp h
  obtain ⟨h4, h⟩ := List.forall_mem_append.mp h
  obtain ⟨h5, h⟩ := List.forall_mem_append.mp h
  obtain ⟨h6, h⟩ := List.forall_mem_append.mp h
  obtain ⟨h7, h⟩ := List.forall_mem_append.mp h
  obtain ⟨h8, h⟩ := List.forall_mem_append.mp h
  obtain ⟨h9, h⟩ := List.forall_mem_append.mp h
  obtain ⟨h10, h⟩ := List.forall_mem_append.mp h
  obtain ⟨h11, h⟩ := List.forall_mem_append.mp h
  obtain ⟨h12, h⟩ := List.forall_mem_append.mp h
  obtain ⟨h13, h⟩ := List.forall_mem_append.mp h
  obtain ⟨h14, h⟩ := List.forall_mem_append.mp h
  obtain ⟨h15, h⟩ := List.forall_mem_append.mp h
  obtain ⟨h16, h⟩ := List.forall_mem_append.mp h
  obtain ⟨h17, h⟩ := List.forall_mem_append.mp h
  obtain ⟨h18, h⟩ := List.forall_mem_append.mp h
  obtain ⟨h19, h⟩ := List.forall_mem_append.mp h
  obtain ⟨h20, h⟩ := List.forall_mem_append.mp h
  obtain ⟨h21, h⟩ := List.forall_mem_append.mp h
  have h22 := h
  exact (av_brP (av_brP (av_brP (av_brP (av_lqP h0) (av_lqP h1)) (av_brP (av_lqP h2) (av_brP (av_lqP h3) (av_lqP h4)))) (av_brP (av_brP (av_lqP h5) (av_brP (av_lqP h6) (av_lqP h7))) (av_brP (av_lqP h8) (av_brP (av_lqP h9) (av_lqP h10))))) (av_brP (av_brP (av_brP (av_lqP h11) (av_brP (av_lqP h12) (av_lqP h13))) (av_brP (av_lqP h14) (av_brP (av_lqP h15) (av_lqP h16)))) (av_brP (av_brP (av_lqP h17) (av_brP (av_lqP h18) (av_lqP h19))) (av_brP (av_lqP h20) (av_brP (av_lqP h21) (av_lqP h22))))))
def cl_201_0 : List (Nat × av_E) := [(0, av_q (.aload_n 0)), (1, av_q (.iload_n 3)), (2, av_qc (.invokevirtual 345) 150 1 0 8), (5, av_qa (.ifCond .eq 23) 28), (8, av_q (.iload 4)), (10, av_q (.iconst 0))]
def cl_201_1 : List (Nat × av_E) := [(11, av_q (.iconst 1)), (12, av_qc (.invokestatic 176) 127 3 2 8), (15, av_qa (.ifCond .eq 13) 28), (18, av_q (.aload_n 0)), (19, av_q (.iload_n 1)), (20, av_q (.iload_n 2))]
def cl_201_2 : List (Nat × av_E) := [(21, av_q (.iload_n 3)), (22, av_qc (.invokevirtual 467) 200 3 0 8), (25, av_qa (.ifCond .ne 6) 31), (28, av_q (.bipush (-2))), (30, av_q (.ireturn)), (31, av_q (.iload 4))]
def cl_201_3 : List (Nat × av_E) := [(33, av_qa (.ifCond .ne 10) 43), (36, av_q (.aload_n 0)), (37, av_qf (.getfield 461) 8 60 0), (40, av_qa (.goto 7) 47), (43, av_q (.aload_n 0)), (44, av_qf (.getfield 464) 8 61 0)]
def cl_201_4 : List (Nat × av_E) := [(47, av_q (.ireturn))]
def cf_201 : Nat → Option av_E := (av_br 20 (av_br 10 (av_lq cl_201_0) (av_lq cl_201_1)) (av_br 31 (av_lq cl_201_2) (av_br 44 (av_lq cl_201_3) (av_lq cl_201_4))))
set_option maxRecDepth 100000 in
set_option maxHeartbeats 4000000 in
theorem ck_201 : ∀ (pc : Nat) (x : av_E), cf_201 pc = some x → cd_201.lookup pc = some x := by
  have h : ∀ q ∈ cl_201_0 ++ (cl_201_1 ++ (cl_201_2 ++ (cl_201_3 ++ (cl_201_4)))), cd_201.lookup q.1 = some q.2 := av_ascQ (cd := cd_201) (by decide +kernel)
  obtain ⟨h0, h⟩ := List.forall_mem_append.mp h
  obtain ⟨h1, h⟩ := List.forall_mem_append.mp h
  obtain ⟨h2, h⟩ := List.forall_mem_append.mp h
  obtain ⟨h3, h⟩ := List.forall_mem_append.mp h
  have h4 := h
  exact (av_brP (av_brP (av_lqP h0) (av_lqP h1)) (av_brP (av_lqP h2) (av_brP (av_lqP h3) (av_lqP h4))))
def cl_202_0 : List (Nat × av_E) := [(0, av_q (.aload_n 0)), (1, av_q (.iload_n 1)), (2, av_qc (.invokevirtual 345) 150 1 0 8), (5, av_qa (.ifCond .eq 11) 16), (8, av_q (.aload_n 0)), (9, av_q (.iload_n 2))]
def cl_202_1 : List (Nat × av_E) := [(10, av_qc (.invokevirtual 345) 150 1 0 8), (13, av_qa (.ifCond .ne 6) 19), (16, av_q (.bipush (-2))), (18, av_q (.ireturn)), (19, av_q (.iconst (-1))), (20, av_q (.istore_n 3))]
def cl_202_2 : List (Nat × av_E) := [(21, av_q (.iconst 0)), (22, av_q (.istore 4)), (24, av_q (.iload 4)), (26, av_q (.aload_n 0)), (27, av_qf (.getfield 7) 8 0 2), (30, av_q (.iconst 0))]
def cl_202_3 : List (Nat × av_E) := [(31, av_q (.iaload)), (32, av_qa (.if_icmp .ge 50) 82), (35, av_q (.iload_n 3)), (36, av_qa (.ifCond .lt 19) 55), (39, av_q (.aload_n 0)), (40, av_qf (.getfield 19) 8 3 2)]
def cl_202_4 : List (Nat × av_E) := [(43, av_q (.iload 4)), (45, av_q (.iaload)), (46, av_q (.aload_n 0)), (47, av_qf (.getfield 19) 8 3 2), (50, av_q (.iload_n 3)), (51, av_q (.iaload))]
def cl_202_5 : List (Nat × av_E) := [(52, av_qa (.if_icmp .ge 24) 76), (55, av_q (.aload_n 0)), (56, av_q (.iload 4)), (58, av_q (.iload_n 1)), (59, av_q (.iload_n 2)), (60, av_qc (.invokevirtual 467) 200 3 0 8)]
def cl_202_6 : List (Nat × av_E) := [(63, av_qa (.ifCond .eq 13) 76), (66, av_q (.aload_n 0)), (67, av_qf (.getfield 461) 8 60 0), (70, av_qa (.ifCond .le 6) 76), (73, av_q (.iload 4)), (75, av_q (.istore_n 3))]
def cl_202_7 : List (Nat × av_E) := [(76, av_q (.iinc 4 1)), (79, av_qa (.goto (-55)) 24), (82, av_q (.iload_n 3)), (83, av_q (.ireturn))]
def cf_202 : Nat → Option av_E := (av_br 40 (av_br 20 (av_br 9 (av_lq cl_202_0) (av_lq cl_202_1)) (av_br 30 (av_lq cl_202_2) (av_lq cl_202_3))) (av_br 60 (av_br 51 (av_lq cl_202_4) (av_lq cl_202_5)) (av_br 75 (av_lq cl_202_6) (av_lq cl_202_7))))
set_option maxRecDepth 100000 in
set_option maxHeartbeats 4000000 in
theorem ck_202 : ∀ (pc : Nat) (x : av_E), cf_202 pc = some x → cd_202.lookup pc = some x := by
  have h : ∀ q ∈ cl_202_0 ++ (cl_202_1 ++ (cl_202_2 ++ (cl_202_3 ++ (cl_202_4 ++ (cl_202_5 ++ (cl_202_6 ++ (cl_202_7))))))), cd_202.lookup q.1 = some q.2 := av_ascQ (cd := cd_202) (by decide +kernel)
  obtain ⟨h0, h⟩ := List.forall_mem_append.mp h
  obtain ⟨h1, h⟩ := List.forall_mem_append.mp h
  obtain ⟨h2, h⟩ := List.forall_mem_append.mp h
  obtain ⟨h3, h⟩ := List.forall_mem_append.mp h
  obtain ⟨h4, h⟩ := List.forall_mem_append.mp h
  obtain ⟨h5, h⟩ := List.forall_mem_append.mp h
  obtain ⟨h6, h⟩ := List.forall_mem_append.mp h
  have h7 := h
  exact (av_brP (av_brP (av_brP (av_lqP h0) (av_lqP h1)) (av_brP (av_lqP h2) (av_lqP h3))) (av_brP (av_brP (av_lqP h4) (av_lqP h5)) (av_brP (av_lqP h6) (av_lqP h7))))
def cl_203_0 : List (Nat × av_E) := [(0, av_q (.iconst 0)), (1, av_q (.istore_n 3)), (2, av_q (.iload_n 3)), (3, av_q (.aload_n 0)), (4, av_qf (.getfield 13) 8 1 2), (7, av_q (.iconst 0))]
def cl_203_1 : List (Nat × av_E) := [(8, av_q (.iaload)), (9, av_qa (.if_icmp .ge 29) 38), (12, av_q (.aload_n 0)), (13, av_q (.iload_n 3)), (14, av_q (.iload_n 2)), (15, av_qc (.invokevirtual 348) 159 2 0 8)]
def cl_203_2 : List (Nat × av_E) := [(18, av_q (.aload_n 0)), (19, av_q (.iload_n 1)), (20, av_qc (.invokevirtual 440) 185 1 0 8), (23, av_q (.aload_n 0)), (24, av_qc (.invokevirtual 437) 184 0 0 8), (27, av_qa (.ifCond .ne 5) 32)]
def cl_203_3 : List (Nat × av_E) := [(30, av_q (.iconst 0)), (31, av_qa (.ireturn) 1), (32, av_q (.iinc 3 1)), (35, av_qa (.goto (-33)) 2), (38, av_q (.iconst 1)), (39, av_qa (.ireturn) 1)]
def cf_203 : Nat → Option av_E := (av_br 15 (av_br 7 (av_lq cl_203_0) (av_lq cl_203_1)) (av_br 27 (av_lq cl_203_2) (av_lq cl_203_3)))
set_option maxRecDepth 100000 in
set_option maxHeartbeats 4000000 in
theorem ck_203 : ∀ (pc : Nat) (x : av_E), cf_203 pc = some x → cd_203.lookup pc = some x := by
  have h : ∀ q ∈ cl_203_0 ++ (cl_203_1 ++ (cl_203_2 ++ (cl_203_3))), cd_203.lookup q.1 = some q.2 := av_ascQ (cd := cd_203) (by decide +kernel)
  obtain ⟨h0, h⟩ := List.forall_mem_append.mp h
  obtain ⟨h1, h⟩ := List.forall_mem_append.mp h
  obtain ⟨h2, h⟩ := List.forall_mem_append.mp h
  have h3 := h
  exact (av_brP (av_brP (av_lqP h0) (av_lqP h1)) (av_brP (av_lqP h2) (av_lqP h3)))
def cl_204_0 : List (Nat × av_E) := [(0, av_q (.aload_n 0)), (1, av_qf (.getfield 13) 8 1 2), (4, av_q (.iconst 0)), (5, av_q (.iaload)), (6, av_qa (.ifCond .eq 13) 19), (9, av_q (.aload_n 0))]
def cl_204_1 : List (Nat × av_E) := [(10, av_q (.iload_n 1)), (11, av_q (.iconst 0)), (12, av_q (.iconst 0)), (13, av_qc (.invokevirtual 446) 186 3 0 8), (16, av_qa (.ifCond .ne 6) 22), (19, av_q (.bipush (-2)))]
def cl_204_2 : List (Nat × av_E) := [(21, av_q (.ireturn)), (22, av_q (.iconst (-1))), (23, av_q (.istore_n 2)), (24, av_q (.iconst 0)), (25, av_q (.istore_n 3)), (26, av_q (.iload_n 3))]
def cl_204_3 : List (Nat × av_E) := [(27, av_q (.iconst 1)), (28, av_q (.aload_n 0)), (29, av_qf (.getfield 16) 8 2 2), (32, av_q (.iconst 0)), (33, av_q (.iaload)), (34, av_q (.ishl))]
def cl_204_4 : List (Nat × av_E) := [(35, av_qa (.if_icmp .ge 35) 70), (38, av_q (.iload_n 2)), (39, av_qa (.ifCond .lt 14) 53), (42, av_q (.iload_n 3)), (43, av_qc (.invokestatic 455) 194 1 2 8), (46, av_q (.iload_n 2))]
def cl_204_5 : List (Nat × av_E) := [(47, av_qc (.invokestatic 455) 194 1 2 8), (50, av_qa (.if_icmp .ge 14) 64), (53, av_q (.aload_n 0)), (54, av_q (.iload_n 1)), (55, av_q (.iload_n 3)), (56, av_qc (.invokevirtual 470) 203 2 0 8)]
def cl_204_6 : List (Nat × av_E) := [(59, av_qa (.ifCond .eq 5) 64), (62, av_q (.iload_n 3)), (63, av_q (.istore_n 2)), (64, av_q (.iinc 3 1)), (67, av_qa (.goto (-41)) 26), (70, av_q (.iload_n 2))]
def cl_204_7 : List (Nat × av_E) := [(71, av_q (.ireturn))]
def cf_204 : Nat → Option av_E := (av_br 34 (av_br 19 (av_br 9 (av_lq cl_204_0) (av_lq cl_204_1)) (av_br 26 (av_lq cl_204_2) (av_lq cl_204_3))) (av_br 56 (av_br 46 (av_lq cl_204_4) (av_lq cl_204_5)) (av_br 70 (av_lq cl_204_6) (av_lq cl_204_7))))
set_option maxRecDepth 100000 in
set_option maxHeartbeats 4000000 in
theorem ck_204 : ∀ (pc : Nat) (x : av_E), cf_204 pc = some x → cd_204.lookup pc = some x := by
  have h : ∀ q ∈ cl_204_0 ++ (cl_204_1 ++ (cl_204_2 ++ (cl_204_3 ++ (cl_204_4 ++ (cl_204_5 ++ (cl_204_6 ++ (cl_204_7))))))), cd_204.lookup q.1 = some q.2 := av_ascQ (cd := cd_204) (by decide +kernel)
  obtain ⟨h0, h⟩ := List.forall_mem_append.mp h
  obtain ⟨h1, h⟩ := List.forall_mem_append.mp h
  obtain ⟨h2, h⟩ := List.forall_mem_append.mp h
  obtain ⟨h3, h⟩ := List.forall_mem_append.mp h
  obtain ⟨h4, h⟩ := List.forall_mem_append.mp h
  obtain ⟨h5, h⟩ := List.forall_mem_append.mp h
  obtain ⟨h6, h⟩ := List.forall_mem_append.mp h
  have h7 := h
  exact (av_brP (av_brP (av_brP (av_lqP h0) (av_lqP h1)) (av_brP (av_lqP h2) (av_lqP h3))) (av_brP (av_brP (av_lqP h4) (av_lqP h5)) (av_brP (av_lqP h6) (av_lqP h7))))
def cl_205_0 : List (Nat × av_E) := [(0, av_q (.aload_n 0)), (1, av_q (.iload_n 1)), (2, av_q (.iload_n 2)), (3, av_q (.iload_n 3)), (4, av_qc (.invokevirtual 446) 186 3 0 8), (7, av_qa (.ifCond .eq 17) 24)]
def cl_205_1 : List (Nat × av_E) := [(10, av_q (.iload 4)), (12, av_qa (.ifCond .lt 12) 24), (15, av_q (.iload 4)), (17, av_q (.aload_n 0)), (18, av_qf (.getfield 351) 8 27 0), (21, av_qa (.if_icmp .lt 6) 27)]
def cl_205_2 : List (Nat × av_E) := [(24, av_q (.bipush (-2))), (26, av_q (.ireturn)), (27, av_q (.aload_n 0)), (28, av_q (.iload 4)), (30, av_qc (.invokevirtual 369) 168 1 0 8), (33, av_qa (.ifCond .eq 17) 50)]
def cl_205_3 : List (Nat × av_E) := [(36, av_q (.aload_n 0)), (37, av_qf (.getfield 121) 8 47 2), (40, av_q (.iload 4)), (42, av_q (.iaload)), (43, av_qa (.ifCond .lt 7) 50), (46, av_q (.iconst 1))]
def cl_205_4 : List (Nat × av_E) := [(47, av_qa (.goto 4) 51), (50, av_q (.iconst 0)), (51, av_q (.istore 5)), (53, av_q (.aload_n 0)), (54, av_qf (.getfield 81) 8 34 2), (57, av_q (.iload 4))]
def cl_205_5 : List (Nat × av_E) := [(59, av_q (.iaload)), (60, av_q (.istore 6)), (62, av_q (.iload 6)), (64, av_qa (.ifCond .lt 118) 182), (67, av_q (.aload_n 0)), (68, av_q (.iload 6))]
def cl_205_6 : List (Nat × av_E) := [(70, av_qc (.invokevirtual 369) 168 1 0 8), (73, av_qa (.ifCond .eq 109) 182), (76, av_q (.aload_n 0)), (77, av_qf (.getfield 127) 8 49 2), (80, av_q (.iload 6)), (82, av_q (.iaload))]
def cl_205_7 : List (Nat × av_E) := [(83, av_qa (.ifCond .le 99) 182), (86, av_q (.aload_n 0)), (87, av_qf (.getfield 127) 8 49 2), (90, av_q (.iload 6)), (92, av_q (.iaload)), (93, av_q (.iconst 3))]
def cl_205_8 : List (Nat × av_E) := [(94, av_qa (.if_icmp .ge 88) 182), (97, av_q (.iconst (-1))), (98, av_q (.istore 7)), (100, av_q (.aload_n 0)), (101, av_qf (.getfield 351) 8 27 0), (104, av_q (.iconst 1))]
def cl_205_9 : List (Nat × av_E) := [(105, av_q (.isub)), (106, av_q (.istore 8)), (108, av_q (.iload 8)), (110, av_q (.iload 6)), (112, av_qa (.if_icmp .le 53) 165), (115, av_q (.aload_n 0))]
def cl_205_10 : List (Nat × av_E) := [(116, av_qf (.getfield 127) 8 49 2), (119, av_q (.iload 6)), (121, av_q (.iaload)), (122, av_q (.iconst 1)), (123, av_qa (.if_icmp .ne 14) 137), (126, av_q (.aload_n 0))]
def cl_205_11 : List (Nat × av_E) := [(127, av_q (.iload 8)), (129, av_q (.iload 6)), (131, av_qc (.invokevirtual 372) 171 2 0 8), (134, av_qa (.goto 11) 145), (137, av_q (.aload_n 0)), (138, av_q (.iload 8))]
def cl_205_12 : List (Nat × av_E) := [(140, av_q (.iload 6)), (142, av_qc (.invokevirtual 378) 172 2 0 8), (145, av_q (.aload_n 0)), (146, av_qf (.getfield 124) 8 48 2), (149, av_q (.iload 6)), (151, av_q (.iaload))]
def cl_205_13 : List (Nat × av_E) := [(152, av_qa (.if_icmp .ne 7) 159), (155, av_q (.iload 8)), (157, av_q (.istore 7)), (159, av_q (.iinc 8 (-1))), (162, av_qa (.goto (-54)) 108), (165, av_q (.iload 5))]
def cl_205_14 : List (Nat × av_E) := [(167, av_q (.iload 7)), (169, av_q (.iload 4)), (171, av_qa (.if_icmp .ne 7) 178), (174, av_q (.iconst 2)), (175, av_qa (.goto 4) 179), (178, av_q (.iconst 0))]
def cl_205_15 : List (Nat × av_E) := [(179, av_q (.ior)), (180, av_q (.istore 5)), (182, av_q (.iload 5)), (184, av_q (.aload_n 0)), (185, av_qf (.getfield 381) 8 50 3), (188, av_qa (.ifCond .eq 16) 204)]
def cl_205_16 : List (Nat × av_E) := [(191, av_q (.aload_n 0)), (192, av_qf (.getfield 387) 8 51 0), (195, av_q (.iload 4)), (197, av_qa (.if_icmp .ne 7) 204), (200, av_q (.iconst 4)), (201, av_qa (.goto 4) 205)]
def cl_205_17 : List (Nat × av_E) := [(204, av_q (.iconst 0)), (205, av_q (.ior)), (206, av_q (.istore 5)), (208, av_q (.aload_n 0)), (209, av_qf (.getfield 69) 8 30 2), (212, av_q (.iload 4))]
def cl_205_18 : List (Nat × av_E) := [(214, av_q (.iaload)), (215, av_q (.iconst 5)), (216, av_qa (.if_icmp .ne 53) 269), (219, av_q (.aload_n 0)), (220, av_q (.iload 6)), (222, av_qc (.invokevirtual 393) 170 1 0 8)]
def cl_205_19 : List (Nat × av_E) := [(225, av_qa (.ifCond .eq 44) 269), (228, av_q (.aload_n 0)), (229, av_q (.iload 4)), (231, av_q (.aload_n 0)), (232, av_qf (.getfield 66) 8 26 2), (235, av_q (.iconst 4))]
def cl_205_20 : List (Nat × av_E) := [(236, av_q (.iaload)), (237, av_qc (.invokevirtual 363) 166 2 0 8), (240, av_q (.istore 7)), (242, av_q (.iload 5)), (244, av_q (.iload 7)), (246, av_qa (.ifCond .lt 19) 265)]
def cl_205_21 : List (Nat × av_E) := [(249, av_q (.iload 7)), (251, av_q (.aload_n 0)), (252, av_q (.iload 6)), (254, av_qc (.invokevirtual 396) 176 1 0 8), (257, av_qa (.if_icmp .ge 8) 265), (260, av_q (.bipush 8))]
def cl_205_22 : List (Nat × av_E) := [(262, av_qa (.goto 4) 266), (265, av_q (.iconst 0)), (266, av_q (.ior)), (267, av_q (.istore 5)), (269, av_q (.iload 5)), (271, av_q (.ireturn))]
def cf_205 : Nat → Option av_E := (av_br 126 (av_br 57 (av_br 21 (av_br 7 (av_lq cl_205_0) (av_lq cl_205_1)) (av_br 33 (av_lq cl_205_2) (av_br 46 (av_lq cl_205_3) (av_lq cl_205_4)))) (av_br 93 (av_br 68 (av_lq cl_205_5) (av_br 82 (av_lq cl_205_6) (av_lq cl_205_7))) (av_br 104 (av_lq cl_205_8) (av_br 115 (av_lq cl_205_9) (av_lq cl_205_10))))) (av_br 201 (av_br 165 (av_br 138 (av_lq cl_205_11) (av_br 151 (av_lq cl_205_12) (av_lq cl_205_13))) (av_br 178 (av_lq cl_205_14) (av_br 188 (av_lq cl_205_15) (av_lq cl_205_16)))) (av_br 235 (av_br 212 (av_lq cl_205_17) (av_br 222 (av_lq cl_205_18) (av_lq cl_205_19))) (av_br 246 (av_lq cl_205_20) (av_br 260 (av_lq cl_205_21) (av_lq cl_205_22))))))
set_option maxRecDepth 100000 in
set_option maxHeartbeats 4000000 in
theorem ck_205 : ∀ (pc : Nat) (x : av_E), cf_205 pc = some x → cd_205.lookup pc = some x := by
  have h : ∀ q ∈ cl_205_0 ++ (cl_205_1 ++ (cl_205_2 ++ (cl_205_3 ++ (cl_205_4 ++ (cl_205_5 ++ (cl_205_6 ++ (cl_205_7 ++ (cl_205_8 ++ (cl_205_9 ++ (cl_205_10 ++ (cl_205_11 ++ (cl_205_12 ++ (cl_205_13 ++ (cl_205_14 ++ (cl_205_15 ++ (cl_205_16 ++ (cl_205_17 ++ (cl_205_18 ++ (cl_205_19 ++ (cl_205_20 ++ (cl_205_21 ++ (cl_205_22)))))))))))))))))))))), cd_205.lookup q.1 = some q.2 := av_ascQ (cd := cd_205) (by decide +kernel)
  obtain ⟨h0, h⟩ := List.forall_mem_append.mp h
  obtain ⟨h1, h⟩ := List.forall_mem_append.mp h
  obtain ⟨h2, h⟩ := List.forall_mem_append.mp h
  obtain ⟨h3, h⟩ := List.forall_mem_append.mp h
  obtain ⟨h4, h⟩ := List.forall_mem_append.mp h
  obtain ⟨h5, h⟩ := List.forall_mem_append.mp h
  obtain ⟨h6, h⟩ := List.forall_mem_append.mp h
  obtain ⟨h7, h⟩ := List.forall_mem_append.mp h
  obtain ⟨h8, h⟩ := List.forall_mem_append.mp h
  obtain ⟨h9, h⟩ := List.forall_mem_append.mp h
  obtain ⟨h10, h⟩ := List.forall_mem_append.mp h
  obtain ⟨h11, h⟩ := List.forall_mem_append.mp h
  obtain ⟨h12, h⟩ := List.forall_mem_append.mp h
  obtain ⟨h13, h⟩ := List.forall_mem_append.mp h
  obtain ⟨h14, h⟩ := List.forall_mem_append.mp h
  obtain ⟨h15, h⟩ := List.forall_mem_append.mp h
  obtain ⟨h16, h⟩ := List.forall_mem_append.mp h
  obtain ⟨h17, h⟩ := List.forall_mem_append.mp h
  obtain ⟨h18, h⟩ := List.forall_mem_append.mp h
  obtain ⟨h19, h⟩ := List.forall_mem_append.mp h
  obtain ⟨h20, h⟩ := List.forall_mem_append.mp h
  obtain ⟨h21, h⟩ := List.forall_mem_append.mp h
  have h22 := h
  exact (av_brP (av_brP (av_brP (av_brP (av_lqP h0) (av_lqP h1)) (av_brP (av_lqP h2) (av_brP (av_lqP h3) (av_lqP h4)))) (av_brP (av_brP (av_lqP h5) (av_brP (av_lqP h6) (av_lqP h7))) (av_brP (av_lqP h8) (av_brP (av_lqP h9) (av_lqP h10))))) (av_brP (av_brP (av_brP (av_lqP h11) (av_brP (av_lqP h12) (av_lqP h13))) (av_brP (av_lqP h14) (av_brP (av_lqP h15) (av_lqP h16)))) (av_brP (av_brP (av_lqP h17) (av_brP (av_lqP h18) (av_lqP h19))) (av_brP (av_lqP h20) (av_brP (av_lqP h21) (av_lqP h22))))))
def cl_206_0 : List (Nat × av_E) := [(0, av_q (.aload_n 0)), (1, av_qf (.getfield 381) 8 50 3), (4, av_qa (.ifCond .eq 13) 17), (7, av_q (.iload_n 2)), (8, av_q (.aload_n 0)), (9, av_qf (.getfield 384) 8 53 0)]
def cl_206_1 : List (Nat × av_E) := [(12, av_qa (.if_icmp .lt 5) 17), (15, av_q (.iconst 0)), (16, av_q (.ireturn)), (17, av_q (.iconst 0)), (18, av_q (.istore_n 3)), (19, av_q (.iconst 0))]
def cl_206_2 : List (Nat × av_E) := [(20, av_q (.istore 4)), (22, av_q (.iload 4)), (24, av_q (.aload_n 0)), (25, av_qf (.getfield 351) 8 27 0), (28, av_qa (.if_icmp .ge 113) 141), (31, av_q (.aload_n 0))]
def cl_206_3 : List (Nat × av_E) := [(32, av_q (.iload 4)), (34, av_qc (.invokevirtual 369) 168 1 0 8), (37, av_qa (.ifCond .eq 98) 135), (40, av_q (.aload_n 0)), (41, av_q (.iload 4)), (43, av_q (.iload_n 2))]
def cl_206_4 : List (Nat × av_E) := [(44, av_qc (.invokevirtual 403) 175 2 0 8), (47, av_qa (.ifCond .ne 6) 53), (50, av_qa (.goto 85) 135), (53, av_q (.aload_n 0)), (54, av_qf (.getfield 84) 8 35 2), (57, av_q (.iload 4))]
def cl_206_5 : List (Nat × av_E) := [(59, av_q (.iaload)), (60, av_q (.iload_n 1)), (61, av_qa (.if_icmp .ne 38) 99), (64, av_q (.aload_n 0)), (65, av_qf (.getfield 78) 8 33 2), (68, av_q (.iload 4))]
def cl_206_6 : List (Nat × av_E) := [(70, av_q (.iaload)), (71, av_qa (.ifCond .lt 24) 95), (74, av_q (.aload_n 0)), (75, av_qf (.getfield 66) 8 26 2), (78, av_q (.bipush 6)), (80, av_q (.iaload))]
def cl_206_7 : List (Nat × av_E) := [(81, av_qa (.ifCond .eq 14) 95), (84, av_q (.iload_n 2)), (85, av_q (.aload_n 0)), (86, av_qf (.getfield 78) 8 33 2), (89, av_q (.iload 4)), (91, av_q (.iaload))]
def cl_206_8 : List (Nat × av_E) := [(92, av_qa (.if_icmp .le 7) 99), (95, av_q (.iload_n 3)), (96, av_q (.iconst 1)), (97, av_q (.ior)), (98, av_q (.istore_n 3)), (99, av_q (.aload_n 0))]
def cl_206_9 : List (Nat × av_E) := [(100, av_qf (.getfield 87) 8 36 2), (103, av_q (.iload 4)), (105, av_q (.iaload)), (106, av_q (.iload_n 1)), (107, av_qa (.if_icmp .ne 28) 135), (110, av_q (.aload_n 0))]
def cl_206_10 : List (Nat × av_E) := [(111, av_qf (.getfield 112) 8 44 2), (114, av_q (.iload 4)), (116, av_q (.iaload)), (117, av_qa (.ifCond .lt 18) 135), (120, av_q (.aload_n 0)), (121, av_qf (.getfield 112) 8 44 2)]
def cl_206_11 : List (Nat × av_E) := [(124, av_q (.iload 4)), (126, av_q (.iaload)), (127, av_q (.iload_n 2)), (128, av_qa (.if_icmp .gt 7) 135), (131, av_q (.iload_n 3)), (132, av_q (.iconst 2))]
def cl_206_12 : List (Nat × av_E) := [(133, av_q (.ior)), (134, av_q (.istore_n 3)), (135, av_q (.iinc 4 1)), (138, av_qa (.goto (-116)) 22), (141, av_q (.iload_n 3)), (142, av_q (.ireturn))]
def cf_206 : Nat → Option av_E := (av_br 68 (av_br 31 (av_br 9 (av_lq cl_206_0) (av_br 19 (av_lq cl_206_1) (av_lq cl_206_2))) (av_br 43 (av_lq cl_206_3) (av_br 57 (av_lq cl_206_4) (av_lq cl_206_5)))) (av_br 99 (av_br 80 (av_lq cl_206_6) (av_br 91 (av_lq cl_206_7) (av_lq cl_206_8))) (av_br 121 (av_br 110 (av_lq cl_206_9) (av_lq cl_206_10)) (av_br 132 (av_lq cl_206_11) (av_lq cl_206_12)))))
set_option maxRecDepth 100000 in
set_option maxHeartbeats 4000000 in
theorem ck_206 : ∀ (pc : Nat) (x : av_E), cf_206 pc = some x → cd_206.lookup pc = some x := by
  have h : ∀ q ∈ cl_206_0 ++ (cl_206_1 ++ (cl_206_2 ++ (cl_206_3 ++ (cl_206_4 ++ (cl_206_5 ++ (cl_206_6 ++ (cl_206_7 ++ (cl_206_8 ++ (cl_206_9 ++ (cl_206_10 ++ (cl_206_11 ++ (cl_206_12)))))))))))), cd_206.lookup q.1 = some q.2 := av_ascQ (cd := cd_206) (by decide +kernel)
  obtain ⟨h0, h⟩ := List.forall_mem_append.mp h
  obtain ⟨h1, h⟩ := List.forall_mem_append.mp h
  obtain ⟨h2, h⟩ := List.forall_mem_append.mp h
  obtain ⟨h3, h⟩ := List.forall_mem_append.mp h
  obtain ⟨h4, h⟩ := List.forall_mem_append.mp h
  obtain ⟨h5, h⟩ := List.forall_mem_append.mp h
  obtain ⟨h6, h⟩ := List.forall_mem_append.mp h
  obtain ⟨h7, h⟩ := List.forall_mem_append.mp h
  obtain ⟨h8, h⟩ := List.forall_mem_append.mp h
  obtain ⟨h9, h⟩ := List.forall_mem_append.mp h
  obtain ⟨h10, h⟩ := List.forall_mem_append.mp h
  obtain ⟨h11, h⟩ := List.forall_mem_append.mp h
  have h12 := h
  exact (av_brP (av_brP (av_brP (av_lqP h0) (av_brP (av_lqP h1) (av_lqP h2))) (av_brP (av_lqP h3) (av_brP (av_lqP h4) (av_lqP h5)))) (av_brP (av_brP (av_lqP h6) (av_brP (av_lqP h7) (av_lqP h8))) (av_brP (av_brP (av_lqP h9) (av_lqP h10)) (av_brP (av_lqP h11) (av_lqP h12)))))
def cl_207_0 : List (Nat × av_E) := [(0, av_q (.iload 4)), (2, av_q (.iconst 0)), (3, av_q (.iconst 2)), (4, av_qc (.invokestatic 176) 127 3 2 8), (7, av_qa (.ifCond .eq 25) 32), (10, av_q (.iload 5))]
def cl_207_1 : List (Nat × av_E) := [(12, av_q (.iconst 0)), (13, av_q (.sipush 9998)), (16, av_qc (.invokestatic 176) 127 3 2 8), (19, av_qa (.ifCond .eq 13) 32), (22, av_q (.aload_n 0)), (23, av_q (.iload_n 1))]
def cl_207_2 : List (Nat × av_E) := [(24, av_q (.iload_n 2)), (25, av_q (.iload_n 3)), (26, av_qc (.invokevirtual 446) 186 3 0 8), (29, av_qa (.ifCond .ne 6) 35), (32, av_q (.bipush (-2))), (34, av_q (.ireturn))]
def cl_207_3 : List (Nat × av_E) := [(35, av_q (.aload_n 0)), (36, av_q (.iload 4)), (38, av_q (.iload 5)), (40, av_qc (.invokevirtual 473) 206 2 0 8), (43, av_q (.ireturn))]
def cf_207 : Nat → Option av_E := (av_br 23 (av_br 10 (av_lq cl_207_0) (av_lq cl_207_1)) (av_br 34 (av_lq cl_207_2) (av_lq cl_207_3)))
set_option maxRecDepth 100000 in
set_option maxHeartbeats 4000000 in
theorem ck_207 : ∀ (pc : Nat) (x : av_E), cf_207 pc = some x → cd_207.lookup pc = some x := by
  have h : ∀ q ∈ cl_207_0 ++ (cl_207_1 ++ (cl_207_2 ++ (cl_207_3))), cd_207.lookup q.1 = some q.2 := av_ascQ (cd := cd_207) (by decide +kernel)
  obtain ⟨h0, h⟩ := List.forall_mem_append.mp h
  obtain ⟨h1, h⟩ := List.forall_mem_append.mp h
  obtain ⟨h2, h⟩ := List.forall_mem_append.mp h
  have h3 := h
  exact (av_brP (av_brP (av_lqP h0) (av_lqP h1)) (av_brP (av_lqP h2) (av_lqP h3)))
def cl_208_0 : List (Nat × av_E) := [(0, av_q (.iload 4)), (2, av_q (.iconst 0)), (3, av_q (.iconst 2)), (4, av_qc (.invokestatic 176) 127 3 2 8), (7, av_qa (.ifCond .eq 23) 30), (10, av_q (.iload 5))]
def cl_208_1 : List (Nat × av_E) := [(12, av_q (.iconst 1)), (13, av_q (.iconst 2)), (14, av_qc (.invokestatic 176) 127 3 2 8), (17, av_qa (.ifCond .eq 13) 30), (20, av_q (.aload_n 0)), (21, av_q (.iload_n 1))]
def cl_208_2 : List (Nat × av_E) := [(22, av_q (.iload_n 2)), (23, av_q (.iload_n 3)), (24, av_qc (.invokevirtual 446) 186 3 0 8), (27, av_qa (.ifCond .ne 6) 33), (30, av_q (.bipush (-2))), (32, av_q (.ireturn))]
def cl_208_3 : List (Nat × av_E) := [(33, av_q (.sipush 9998)), (36, av_q (.istore 6)), (38, av_q (.iload 6)), (40, av_qa (.ifCond .lt 23) 63), (43, av_q (.aload_n 0)), (44, av_q (.iload 4))]
def cl_208_4 : List (Nat × av_E) := [(46, av_q (.iload 6)), (48, av_qc (.invokevirtual 473) 206 2 0 8), (51, av_q (.iload 5)), (53, av_q (.iand)), (54, av_qa (.ifCond .ne 9) 63), (57, av_q (.iinc 6 (-1)))]
def cl_208_5 : List (Nat × av_E) := [(60, av_qa (.goto (-22)) 38), (63, av_q (.iload 6)), (65, av_q (.ireturn))]
def cf_208 : Nat → Option av_E := (av_br 32 (av_br 10 (av_lq cl_208_0) (av_br 21 (av_lq cl_208_1) (av_lq cl_208_2))) (av_br 44 (av_lq cl_208_3) (av_br 57 (av_lq cl_208_4) (av_lq cl_208_5))))
set_option maxRecDepth 100000 in
set_option maxHeartbeats 4000000 in
theorem ck_208 : ∀ (pc : Nat) (x : av_E), cf_208 pc = some x → cd_208.lookup pc = some x := by
  have h : ∀ q ∈ cl_208_0 ++ (cl_208_1 ++ (cl_208_2 ++ (cl_208_3 ++ (cl_208_4 ++ (cl_208_5))))), cd_208.lookup q.1 = some q.2 := av_ascQ (cd := cd_208) (by decide +kernel)
  obtain ⟨h0, h⟩ := List.forall_mem_append.mp h
  obtain ⟨h1, h⟩ := List.forall_mem_append.mp h
  obtain ⟨h2, h⟩ := List.forall_mem_append.mp h
  obtain ⟨h3, h⟩ := List.forall_mem_append.mp h
  obtain ⟨h4, h⟩ := List.forall_mem_append.mp h
  have h5 := h
  exact (av_brP (av_brP (av_lqP h0) (av_brP (av_lqP h1) (av_lqP h2))) (av_brP (av_lqP h3) (av_brP (av_lqP h4) (av_lqP h5))))
def cl_209_0 : List (Nat × av_E) := [(0, av_q (.aload_n 0)), (1, av_qc (.invokevirtual 424) 163 0 0 8), (4, av_q (.aload_n 0)), (5, av_qc (.invokevirtual 427) 164 0 0 8), (8, av_qa (.ifCond .ne 6) 14), (11, av_q (.bipush (-2)))]
def cl_209_1 : List (Nat × av_E) := [(13, av_q (.ireturn)), (14, av_q (.iconst 0)), (15, av_q (.istore_n 1)), (16, av_q (.iconst 0)), (17, av_q (.istore_n 2)), (18, av_q (.iload_n 2))]
def cl_209_2 : List (Nat × av_E) := [(19, av_q (.aload_n 0)), (20, av_qf (.getfield 357) 8 29 0), (23, av_qa (.if_icmp .ge 29) 52), (26, av_q (.aload_n 0)), (27, av_q (.iload_n 2)), (28, av_qc (.invokevirtual 431) 181 1 0 8)]
def cl_209_3 : List (Nat × av_E) := [(31, av_q (.iload_n 1)), (32, av_q (.aload_n 0)), (33, av_qf (.getfield 381) 8 50 3), (36, av_qa (.ifCond .eq 7) 43), (39, av_q (.iconst 1)), (40, av_qa (.goto 4) 44)]
def cl_209_4 : List (Nat × av_E) := [(43, av_q (.iconst 0)), (44, av_q (.iadd)), (45, av_q (.istore_n 1)), (46, av_q (.iinc 2 1)), (49, av_qa (.goto (-31)) 18), (52, av_q (.iload_n 1))]
def cl_209_5 : List (Nat × av_E) := [(53, av_q (.ireturn))]
def cf_209 : Nat → Option av_E := (av_br 28 (av_br 11 (av_lq cl_209_0) (av_br 18 (av_lq cl_209_1) (av_lq cl_209_2))) (av_br 40 (av_lq cl_209_3) (av_br 52 (av_lq cl_209_4) (av_lq cl_209_5))))
set_option maxRecDepth 100000 in
set_option maxHeartbeats 4000000 in
theorem ck_209 : ∀ (pc : Nat) (x : av_E), cf_209 pc = some x → cd_209.lookup pc = some x := by
  have h : ∀ q ∈ cl_209_0 ++ (cl_209_1 ++ (cl_209_2 ++ (cl_209_3 ++ (cl_209_4 ++ (cl_209_5))))), cd_209.lookup q.1 = some q.2 := av_ascQ (cd := cd_209) (by decide +kernel)
  obtain ⟨h0, h⟩ := List.forall_mem_append.mp h
  obtain ⟨h1, h⟩ := List.forall_mem_append.mp h
  obtain ⟨h2, h⟩ := List.forall_mem_append.mp h
  obtain ⟨h3, h⟩ := List.forall_mem_append.mp h
  obtain ⟨h4, h⟩ := List.forall_mem_append.mp h
  have h5 := h
  exact (av_brP (av_brP (av_lqP h0) (av_brP (av_lqP h1) (av_lqP h2))) (av_brP (av_lqP h3) (av_brP (av_lqP h4) (av_lqP h5))))
def cl_210_0 : List (Nat × av_E) := [(0, av_q (.aload_n 0)), (1, av_q (.iload_n 1)), (2, av_qc (.invokevirtual 299) 149 1 0 8), (5, av_qa (.ifCond .eq 29) 34), (8, av_q (.aload_n 0)), (9, av_q (.iload_n 2))]
def cl_210_1 : List (Nat × av_E) := [(10, av_qc (.invokevirtual 345) 150 1 0 8), (13, av_qa (.ifCond .eq 21) 34), (16, av_q (.iload_n 3)), (17, av_qa (.ifCond .lt 17) 34), (20, av_q (.iload_n 3)), (21, av_q (.aload_n 0))]
def cl_210_2 : List (Nat × av_E) := [(22, av_qf (.getfield 19) 8 3 2), (25, av_q (.iload_n 1)), (26, av_q (.iaload)), (27, av_qa (.if_icmp .ge 7) 34), (30, av_q (.iconst 1)), (31, av_qa (.goto 4) 35)]
def cl_210_3 : List (Nat × av_E) := [(34, av_q (.iconst 0)), (35, av_qa (.ireturn) 1)]
def cf_210 : Nat → Option av_E := (av_br 21 (av_br 9 (av_lq cl_210_0) (av_lq cl_210_1)) (av_br 31 (av_lq cl_210_2) (av_lq cl_210_3)))
set_option maxRecDepth 100000 in
set_option maxHeartbeats 4000000 in
theorem ck_210 : ∀ (pc : Nat) (x : av_E), cf_210 pc = some x → cd_210.lookup pc = some x := by
  have h : ∀ q ∈ cl_210_0 ++ (cl_210_1 ++ (cl_210_2 ++ (cl_210_3))), cd_210.lookup q.1 = some q.2 := av_ascQ (cd := cd_210) (by decide +kernel)
  obtain ⟨h0, h⟩ := List.forall_mem_append.mp h
  obtain ⟨h1, h⟩ := List.forall_mem_append.mp h
  obtain ⟨h2, h⟩ := List.forall_mem_append.mp h
  have h3 := h
  exact (av_brP (av_brP (av_lqP h0) (av_lqP h1)) (av_brP (av_lqP h2) (av_lqP h3)))
def cl_211_0 : List (Nat × av_E) := [(0, av_q (.aload_n 0)), (1, av_q (.iload_n 1)), (2, av_q (.iload_n 2)), (3, av_q (.iload_n 3)), (4, av_qc (.invokevirtual 476) 210 3 0 8), (7, av_qa (.ifCond .eq 18) 25)]
def cl_211_1 : List (Nat × av_E) := [(10, av_q (.aload_n 0)), (11, av_qf (.getfield 34) 8 8 2), (14, av_q (.bipush 12)), (16, av_q (.iload_n 1)), (17, av_q (.imul)), (18, av_q (.iload_n 3))]
def cl_211_2 : List (Nat × av_E) := [(19, av_q (.iadd)), (20, av_q (.iaload)), (21, av_q (.iconst 1)), (22, av_qa (.if_icmp .le 6) 28), (25, av_q (.bipush (-2))), (27, av_q (.ireturn))]
def cl_211_3 : List (Nat × av_E) := [(28, av_q (.aload_n 0)), (29, av_q (.iload_n 2)), (30, av_q (.iconst 0)), (31, av_qc (.invokevirtual 348) 159 2 0 8), (34, av_q (.aload_n 0)), (35, av_q (.iload_n 1))]
def cl_211_4 : List (Nat × av_E) := [(36, av_qc (.invokevirtual 440) 185 1 0 8), (39, av_q (.aload_n 0)), (40, av_qf (.getfield 75) 8 32 2), (43, av_q (.iload_n 3)), (44, av_q (.iconst 2)), (45, av_q (.iastore))]
def cl_211_5 : List (Nat × av_E) := [(46, av_q (.aload_n 0)), (47, av_qc (.invokevirtual 479) 209 0 0 8), (50, av_q (.ireturn))]
def cf_211 : Nat → Option av_E := (av_br 27 (av_br 7 (av_lq cl_211_0) (av_br 18 (av_lq cl_211_1) (av_lq cl_211_2))) (av_br 35 (av_lq cl_211_3) (av_br 45 (av_lq cl_211_4) (av_lq cl_211_5))))
set_option maxRecDepth 100000 in
set_option maxHeartbeats 4000000 in
theorem ck_211 : ∀ (pc : Nat) (x : av_E), cf_211 pc = some x → cd_211.lookup pc = some x := by
  have h : ∀ q ∈ cl_211_0 ++ (cl_211_1 ++ (cl_211_2 ++ (cl_211_3 ++ (cl_211_4 ++ (cl_211_5))))), cd_211.lookup q.1 = some q.2 := av_ascQ (cd := cd_211) (by decide +kernel)
  obtain ⟨h0, h⟩ := List.forall_mem_append.mp h
  obtain ⟨h1, h⟩ := List.forall_mem_append.mp h
  obtain ⟨h2, h⟩ := List.forall_mem_append.mp h
  obtain ⟨h3, h⟩ := List.forall_mem_append.mp h
  obtain ⟨h4, h⟩ := List.forall_mem_append.mp h
  have h5 := h
  exact (av_brP (av_brP (av_lqP h0) (av_brP (av_lqP h1) (av_lqP h2))) (av_brP (av_lqP h3) (av_brP (av_lqP h4) (av_lqP h5))))
def cl_212_0 : List (Nat × av_E) := [(0, av_q (.aload_n 0)), (1, av_q (.iload_n 1)), (2, av_q (.iload_n 2)), (3, av_q (.iload_n 3)), (4, av_qc (.invokevirtual 476) 210 3 0 8), (7, av_qa (.ifCond .ne 6) 13)]
def cl_212_1 : List (Nat × av_E) := [(10, av_q (.bipush (-2))), (12, av_q (.ireturn)), (13, av_q (.aload_n 0)), (14, av_q (.iload_n 2)), (15, av_q (.iconst 0)), (16, av_qc (.invokevirtual 348) 159 2 0 8)]
def cl_212_2 : List (Nat × av_E) := [(19, av_q (.aload_n 0)), (20, av_q (.iload_n 1)), (21, av_qc (.invokevirtual 440) 185 1 0 8), (24, av_q (.aload_n 0)), (25, av_qf (.getfield 75) 8 32 2), (28, av_q (.iload_n 3))]
def cl_212_3 : List (Nat × av_E) := [(29, av_q (.iconst 0)), (30, av_q (.iastore)), (31, av_q (.aload_n 0)), (32, av_qf (.getfield 72) 8 31 2), (35, av_q (.iload_n 3)), (36, av_q (.iconst 1))]
def cl_212_4 : List (Nat × av_E) := [(37, av_q (.iastore)), (38, av_q (.iconst 1)), (39, av_q (.istore 4)), (41, av_q (.iload 4)), (43, av_q (.iconst 3)), (44, av_qa (.if_icmp .ge 33) 77)]
def cl_212_5 : List (Nat × av_E) := [(47, av_q (.aload_n 0)), (48, av_qf (.getfield 97) 8 39 2), (51, av_q (.iconst 3)), (52, av_q (.iload_n 3)), (53, av_q (.imul)), (54, av_q (.iload 4))]
def cl_212_6 : List (Nat × av_E) := [(56, av_q (.iadd)), (57, av_q (.iconst 0)), (58, av_q (.iastore)), (59, av_q (.aload_n 0)), (60, av_qf (.getfield 100) 8 40 2), (63, av_q (.iconst 3))]
def cl_212_7 : List (Nat × av_E) := [(64, av_q (.iload_n 3)), (65, av_q (.imul)), (66, av_q (.iload 4)), (68, av_q (.iadd)), (69, av_q (.iconst 0)), (70, av_q (.iastore))]
def cl_212_8 : List (Nat × av_E) := [(71, av_q (.iinc 4 1)), (74, av_qa (.goto (-33)) 41), (77, av_q (.aload_n 0)), (78, av_qc (.invokevirtual 479) 209 0 0 8), (81, av_q (.ireturn))]
def cf_212 : Nat → Option av_E := (av_br 36 (av_br 16 (av_br 7 (av_lq cl_212_0) (av_lq cl_212_1)) (av_br 28 (av_lq cl_212_2) (av_lq cl_212_3))) (av_br 54 (av_br 44 (av_lq cl_212_4) (av_lq cl_212_5)) (av_br 63 (av_lq cl_212_6) (av_br 70 (av_lq cl_212_7) (av_lq cl_212_8)))))
set_option maxRecDepth 100000 in
set_option maxHeartbeats 4000000 in
theorem ck_212 : ∀ (pc : Nat) (x : av_E), cf_212 pc = some x → cd_212.lookup pc = some x := by
  have h : ∀ q ∈ cl_212_0 ++ (cl_212_1 ++ (cl_212_2 ++ (cl_212_3 ++ (cl_212_4 ++ (cl_212_5 ++ (cl_212_6 ++ (cl_212_7 ++ (cl_212_8)))))))), cd_212.lookup q.1 = some q.2 := av_ascQ (cd := cd_212) (by decide +kernel)
  obtain ⟨h0, h⟩ := List.forall_mem_append.mp h
  obtain ⟨h1, h⟩ := List.forall_mem_append.mp h
  obtain ⟨h2, h⟩ := List.forall_mem_append.mp h
  obtain ⟨h3, h⟩ := List.forall_mem_append.mp h
  obtain ⟨h4, h⟩ := List.forall_mem_append.mp h
  obtain ⟨h5, h⟩ := List.forall_mem_append.mp h
  obtain ⟨h6, h⟩ := List.forall_mem_append.mp h
  obtain ⟨h7, h⟩ := List.forall_mem_append.mp h
  have h8 := h
  exact (av_brP (av_brP (av_brP (av_lqP h0) (av_lqP h1)) (av_brP (av_lqP h2) (av_lqP h3))) (av_brP (av_brP (av_lqP h4) (av_lqP h5)) (av_brP (av_lqP h6) (av_brP (av_lqP h7) (av_lqP h8)))))
def cl_213_0 : List (Nat × av_E) := [(0, av_q (.aload_n 0)), (1, av_qf (.getfield 7) 8 0 2), (4, av_q (.iload_n 2)), (5, av_q (.aload_n 0)), (6, av_qf (.getfield 7) 8 0 2), (9, av_q (.iload_n 1))]
def cl_213_1 : List (Nat × av_E) := [(10, av_q (.iaload)), (11, av_q (.iastore)), (12, av_q (.aload_n 0)), (13, av_qf (.getfield 13) 8 1 2), (16, av_q (.iload_n 2)), (17, av_q (.aload_n 0))]
def cl_213_2 : List (Nat × av_E) := [(18, av_qf (.getfield 13) 8 1 2), (21, av_q (.iload_n 1)), (22, av_q (.iaload)), (23, av_q (.iastore)), (24, av_q (.aload_n 0)), (25, av_qf (.getfield 16) 8 2 2)]
def cl_213_3 : List (Nat × av_E) := [(28, av_q (.iload_n 2)), (29, av_q (.aload_n 0)), (30, av_qf (.getfield 16) 8 2 2), (33, av_q (.iload_n 1)), (34, av_q (.iaload)), (35, av_q (.iastore))]
def cl_213_4 : List (Nat × av_E) := [(36, av_q (.iconst 0)), (37, av_q (.istore_n 3)), (38, av_q (.iload_n 3)), (39, av_q (.bipush 16)), (41, av_qa (.if_icmp .ge 31) 72), (44, av_q (.aload_n 0))]
def cl_213_5 : List (Nat × av_E) := [(45, av_qf (.getfield 19) 8 3 2), (48, av_q (.bipush 16)), (50, av_q (.iload_n 2)), (51, av_q (.imul)), (52, av_q (.iload_n 3)), (53, av_q (.iadd))]
def cl_213_6 : List (Nat × av_E) := [(54, av_q (.aload_n 0)), (55, av_qf (.getfield 19) 8 3 2), (58, av_q (.bipush 16)), (60, av_q (.iload_n 1)), (61, av_q (.imul)), (62, av_q (.iload_n 3))]
def cl_213_7 : List (Nat × av_E) := [(63, av_q (.iadd)), (64, av_q (.iaload)), (65, av_q (.iastore)), (66, av_q (.iinc 3 1)), (69, av_qa (.goto (-31)) 38), (72, av_q (.iconst 0))]
def cl_213_8 : List (Nat × av_E) := [(73, av_q (.istore_n 3)), (74, av_q (.iload_n 3)), (75, av_q (.sipush 192)), (78, av_qa (.if_icmp .ge 201) 279), (81, av_q (.aload_n 0)), (82, av_qf (.getfield 22) 8 4 2)]
def cl_213_9 : List (Nat × av_E) := [(85, av_q (.sipush 192)), (88, av_q (.iload_n 2)), (89, av_q (.imul)), (90, av_q (.iload_n 3)), (91, av_q (.iadd)), (92, av_q (.aload_n 0))]
def cl_213_10 : List (Nat × av_E) := [(93, av_qf (.getfield 22) 8 4 2), (96, av_q (.sipush 192)), (99, av_q (.iload_n 1)), (100, av_q (.imul)), (101, av_q (.iload_n 3)), (102, av_q (.iadd))]
def cl_213_11 : List (Nat × av_E) := [(103, av_q (.iaload)), (104, av_q (.iastore)), (105, av_q (.aload_n 0)), (106, av_qf (.getfield 25) 8 5 2), (109, av_q (.sipush 192)), (112, av_q (.iload_n 2))]
def cl_213_12 : List (Nat × av_E) := [(113, av_q (.imul)), (114, av_q (.iload_n 3)), (115, av_q (.iadd)), (116, av_q (.aload_n 0)), (117, av_qf (.getfield 25) 8 5 2), (120, av_q (.sipush 192))]
def cl_213_13 : List (Nat × av_E) := [(123, av_q (.iload_n 1)), (124, av_q (.imul)), (125, av_q (.iload_n 3)), (126, av_q (.iadd)), (127, av_q (.iaload)), (128, av_q (.iastore))]
def cl_213_14 : List (Nat × av_E) := [(129, av_q (.aload_n 0)), (130, av_qf (.getfield 28) 8 6 2), (133, av_q (.sipush 192)), (136, av_q (.iload_n 2)), (137, av_q (.imul)), (138, av_q (.iload_n 3))]
def cl_213_15 : List (Nat × av_E) := [(139, av_q (.iadd)), (140, av_q (.aload_n 0)), (141, av_qf (.getfield 28) 8 6 2), (144, av_q (.sipush 192)), (147, av_q (.iload_n 1)), (148, av_q (.imul))]
def cl_213_16 : List (Nat × av_E) := [(149, av_q (.iload_n 3)), (150, av_q (.iadd)), (151, av_q (.iaload)), (152, av_q (.iastore)), (153, av_q (.aload_n 0)), (154, av_qf (.getfield 31) 8 7 2)]
def cl_213_17 : List (Nat × av_E) := [(157, av_q (.sipush 192)), (160, av_q (.iload_n 2)), (161, av_q (.imul)), (162, av_q (.iload_n 3)), (163, av_q (.iadd)), (164, av_q (.aload_n 0))]
def cl_213_18 : List (Nat × av_E) := [(165, av_qf (.getfield 31) 8 7 2), (168, av_q (.sipush 192)), (171, av_q (.iload_n 1)), (172, av_q (.imul)), (173, av_q (.iload_n 3)), (174, av_q (.iadd))]
def cl_213_19 : List (Nat × av_E) := [(175, av_q (.iaload)), (176, av_q (.iastore)), (177, av_q (.aload_n 0)), (178, av_qf (.getfield 34) 8 8 2), (181, av_q (.sipush 192)), (184, av_q (.iload_n 2))]
def cl_213_20 : List (Nat × av_E) := [(185, av_q (.imul)), (186, av_q (.iload_n 3)), (187, av_q (.iadd)), (188, av_q (.aload_n 0)), (189, av_qf (.getfield 34) 8 8 2), (192, av_q (.sipush 192))]
def cl_213_21 : List (Nat × av_E) := [(195, av_q (.iload_n 1)), (196, av_q (.imul)), (197, av_q (.iload_n 3)), (198, av_q (.iadd)), (199, av_q (.iaload)), (200, av_q (.iastore))]
def cl_213_22 : List (Nat × av_E) := [(201, av_q (.aload_n 0)), (202, av_qf (.getfield 37) 8 9 2), (205, av_q (.sipush 192)), (208, av_q (.iload_n 2)), (209, av_q (.imul)), (210, av_q (.iload_n 3))]
def cl_213_23 : List (Nat × av_E) := [(211, av_q (.iadd)), (212, av_q (.aload_n 0)), (213, av_qf (.getfield 37) 8 9 2), (216, av_q (.sipush 192)), (219, av_q (.iload_n 1)), (220, av_q (.imul))]
def cl_213_24 : List (Nat × av_E) := [(221, av_q (.iload_n 3)), (222, av_q (.iadd)), (223, av_q (.iaload)), (224, av_q (.iastore)), (225, av_q (.aload_n 0)), (226, av_qf (.getfield 40) 8 10 2)]
def cl_213_25 : List (Nat × av_E) := [(229, av_q (.sipush 192)), (232, av_q (.iload_n 2)), (233, av_q (.imul)), (234, av_q (.iload_n 3)), (235, av_q (.iadd)), (236, av_q (.aload_n 0))]
def cl_213_26 : List (Nat × av_E) := [(237, av_qf (.getfield 40) 8 10 2), (240, av_q (.sipush 192)), (243, av_q (.iload_n 1)), (244, av_q (.imul)), (245, av_q (.iload_n 3)), (246, av_q (.iadd))]
def cl_213_27 : List (Nat × av_E) := [(247, av_q (.iaload)), (248, av_q (.iastore)), (249, av_q (.aload_n 0)), (250, av_qf (.getfield 43) 8 11 2), (253, av_q (.sipush 192)), (256, av_q (.iload_n 2))]
def cl_213_28 : List (Nat × av_E) := [(257, av_q (.imul)), (258, av_q (.iload_n 3)), (259, av_q (.iadd)), (260, av_q (.aload_n 0)), (261, av_qf (.getfield 43) 8 11 2), (264, av_q (.sipush 192))]
def cl_213_29 : List (Nat × av_E) := [(267, av_q (.iload_n 1)), (268, av_q (.imul)), (269, av_q (.iload_n 3)), (270, av_q (.iadd)), (271, av_q (.iaload)), (272, av_q (.iastore))]
def cl_213_30 : List (Nat × av_E) := [(273, av_q (.iinc 3 1)), (276, av_qa (.goto (-202)) 74), (279, av_q (.iconst 0)), (280, av_q (.istore_n 3)), (281, av_q (.iload_n 3)), (282, av_q (.sipush 960))]
def cl_213_31 : List (Nat × av_E) := [(285, av_qa (.if_icmp .ge 33) 318), (288, av_q (.aload_n 0)), (289, av_qf (.getfield 46) 8 12 2), (292, av_q (.sipush 960)), (295, av_q (.iload_n 2)), (296, av_q (.imul))]
def cl_213_32 : List (Nat × av_E) := [(297, av_q (.iload_n 3)), (298, av_q (.iadd)), (299, av_q (.aload_n 0)), (300, av_qf (.getfield 46) 8 12 2), (303, av_q (.sipush 960)), (306, av_q (.iload_n 1))]
def cl_213_33 : List (Nat × av_E) := [(307, av_q (.imul)), (308, av_q (.iload_n 3)), (309, av_q (.iadd)), (310, av_q (.iaload)), (311, av_q (.iastore)), (312, av_q (.iinc 3 1))]
def cl_213_34 : List (Nat × av_E) := [(315, av_qa (.goto (-34)) 281), (318, av_q (.iconst 0)), (319, av_q (.istore_n 3)), (320, av_q (.iload_n 3)), (321, av_q (.sipush 576)), (324, av_qa (.if_icmp .ge 57) 381)]
def cl_213_35 : List (Nat × av_E) := [(327, av_q (.aload_n 0)), (328, av_qf (.getfield 49) 8 13 2), (331, av_q (.sipush 576)), (334, av_q (.iload_n 2)), (335, av_q (.imul)), (336, av_q (.iload_n 3))]
def cl_213_36 : List (Nat × av_E) := [(337, av_q (.iadd)), (338, av_q (.aload_n 0)), (339, av_qf (.getfield 49) 8 13 2), (342, av_q (.sipush 576)), (345, av_q (.iload_n 1)), (346, av_q (.imul))]
def cl_213_37 : List (Nat × av_E) := [(347, av_q (.iload_n 3)), (348, av_q (.iadd)), (349, av_q (.iaload)), (350, av_q (.iastore)), (351, av_q (.aload_n 0)), (352, av_qf (.getfield 52) 8 14 2)]
def cl_213_38 : List (Nat × av_E) := [(355, av_q (.sipush 576)), (358, av_q (.iload_n 2)), (359, av_q (.imul)), (360, av_q (.iload_n 3)), (361, av_q (.iadd)), (362, av_q (.aload_n 0))]
def cl_213_39 : List (Nat × av_E) := [(363, av_qf (.getfield 52) 8 14 2), (366, av_q (.sipush 576)), (369, av_q (.iload_n 1)), (370, av_q (.imul)), (371, av_q (.iload_n 3)), (372, av_q (.iadd))]
def cl_213_40 : List (Nat × av_E) := [(373, av_q (.iaload)), (374, av_q (.iastore)), (375, av_q (.iinc 3 1)), (378, av_qa (.goto (-58)) 320), (381, av_q (.iconst 0)), (382, av_q (.istore_n 3))]
def cl_213_41 : List (Nat × av_E) := [(383, av_q (.iload_n 3)), (384, av_q (.sipush 196)), (387, av_qa (.if_icmp .ge 33) 420), (390, av_q (.aload_n 0)), (391, av_qf (.getfield 55) 8 15 2), (394, av_q (.sipush 196))]
def cl_213_42 : List (Nat × av_E) := [(397, av_q (.iload_n 2)), (398, av_q (.imul)), (399, av_q (.iload_n 3)), (400, av_q (.iadd)), (401, av_q (.aload_n 0)), (402, av_qf (.getfield 55) 8 15 2)]
def cl_213_43 : List (Nat × av_E) := [(405, av_q (.sipush 196)), (408, av_q (.iload_n 1)), (409, av_q (.imul)), (410, av_q (.iload_n 3)), (411, av_q (.iadd)), (412, av_q (.iaload))]
def cl_213_44 : List (Nat × av_E) := [(413, av_q (.iastore)), (414, av_q (.iinc 3 1)), (417, av_qa (.goto (-34)) 383), (420, av_q (.return_))]
def cf_213 : Nat → Option av_E := (av_br 200 (av_br 102 (av_br 44 (av_br 17 (av_br 9 (av_lq cl_213_0) (av_lq cl_213_1)) (av_br 25 (av_lq cl_213_2) (av_br 35 (av_lq cl_213_3) (av_lq cl_213_4)))) (av_br 72 (av_br 53 (av_lq cl_213_5) (av_br 62 (av_lq cl_213_6) (av_lq cl_213_7))) (av_br 82 (av_lq cl_213_8) (av_br 92 (av_lq cl_213_9) (av_lq cl_213_10))))) (av_br 148 (av_br 120 (av_br 112 (av_lq cl_213_11) (av_lq cl_213_12)) (av_br 128 (av_lq cl_213_13) (av_br 138 (av_lq cl_213_14) (av_lq cl_213_15)))) (av_br 174 (av_br 154 (av_lq cl_213_16) (av_br 164 (av_lq cl_213_17) (av_lq cl_213_18))) (av_br 184 (av_lq cl_213_19) (av_br 192 (av_lq cl_213_20) (av_lq cl_213_21)))))) (av_br 306 (av_br 246 (av_br 220 (av_br 210 (av_lq cl_213_22) (av_lq cl_213_23)) (av_br 226 (av_lq cl_213_24) (av_br 236 (av_lq cl_213_25) (av_lq cl_213_26)))) (av_br 272 (av_br 256 (av_lq cl_213_27) (av_br 264 (av_lq cl_213_28) (av_lq cl_213_29))) (av_br 282 (av_lq cl_213_30) (av_br 296 (av_lq cl_213_31) (av_lq cl_213_32))))) (av_br 362 (av_br 336 (av_br 312 (av_lq cl_213_33) (av_br 324 (av_lq cl_213_34) (av_lq cl_213_35))) (av_br 346 (av_lq cl_213_36) (av_br 352 (av_lq cl_213_37) (av_lq cl_213_38)))) (av_br 394 (av_br 372 (av_lq cl_213_39) (av_br 382 (av_lq cl_213_40) (av_lq cl_213_41))) (av_br 402 (av_lq cl_213_42) (av_br 412 (av_lq cl_213_43) (av_lq cl_213_44)))))))
set_option maxRecDepth 100000 in
set_option maxHeartbeats 4000000 in
theorem ck_213 : ∀ (pc : Nat) (x : av_E), cf_213 pc = some x → cd_213.lookup pc = some x := by
  have h : ∀ q ∈ cl_213_0 ++ (cl_213_1 ++ (cl_213_2 ++ (cl_213_3 ++ (cl_213_4 ++ (cl_213_5 ++ (cl_213_6 ++ (cl_213_7 ++ (cl_213_8 ++ (cl_213_9 ++ (cl_213_10 ++ (cl_213_11 ++ (cl_213_12 ++ (cl_213_13 ++ (cl_213_14 ++ (cl_213_15 ++ (cl_213_16 ++ (cl_213_17 ++ (cl_213_18 ++ (cl_213_19 ++ (cl_213_20 ++ (cl_213_21 ++ (cl_213_22 ++ (cl_213_23 ++ (cl_213_24 ++ (cl_213_25 ++ (cl_213_26 ++ (cl_213_27 ++ (cl_213_28 ++ (cl_213_29 ++ (cl_213_30 ++ (cl_213_31 ++ (cl_213_32 ++ (cl_213_33 ++ (cl_213_34 ++ (cl_213_35 ++ (cl_213_36 ++ (cl_213_37 ++ (cl_213_38 ++ (cl_213_39 ++ (cl_213_40 ++ (cl_213_41 ++ (cl_213_42 ++ (cl_213_43 ++ (cl_213_44)))))))))))))))))))))))))))))))))))))))))))), cd_213.lookup q.1 = some q.2 := av_ascQ (cd := cd_213) (by decide +kernel)
  obtain ⟨h0, h⟩ := List.forall_mem_append.mp h
  obtain ⟨h1, h⟩ := List.forall_mem_append.mp h
  obtain ⟨h2, h⟩ := List.forall_mem_append.mp h
  obtain ⟨h3, h⟩ := List.forall_mem_append.mp h
  obtain ⟨h4, h⟩ := List.forall_mem_append.mp h
  obtain ⟨h5, h⟩ := List.forall_mem_append.mp h
  obtain ⟨h6, h⟩ := List.forall_mem_append.mp h
  obtain ⟨h7, h⟩ := List.forall_mem_append.mp h
  obtain ⟨h8, h⟩ := List.forall_mem_append.mp h
  obtain ⟨h9, h⟩ := List.forall_mem_append.mp h
  obtain ⟨h10, h⟩ := List.forall_mem_append.mp h
  obtain ⟨h11, h⟩ := List.forall_mem_append.mp h
  obtain ⟨h12, h⟩ := List.forall_mem_append.mp h
  obtain ⟨h13, h⟩ := List.forall_mem_append.mp h
  obtain ⟨h14, h⟩ := List.forall_mem_append.mp h
  obtain ⟨h15, h⟩ := List.forall_mem_append.mp h
  obtain ⟨h16, h⟩ := List.forall_mem_append.mp h
  obtain ⟨h17, h⟩ := List.forall_mem_append.mp h
  obtain ⟨h18, h⟩ := List.forall_mem_append.mp h
  obtain ⟨h19, h⟩ := List.forall_mem_append.mp h
  obtain ⟨h20, h⟩ := List.forall_mem_append.mp h
  obtain ⟨h21, h⟩ := List.forall_mem_append.mp h
  obtain ⟨h22, h⟩ := List.forall_mem_append.mp h
  obtain ⟨h23, h⟩ := List.forall_mem_append.mp h
  obtain ⟨h24, h⟩ := List.forall_mem_append.mp h
  obtain ⟨h25, h⟩ := List.forall_mem_append.mp h
  obtain ⟨h26, h⟩ := List.forall_mem_append.mp h
  obtain ⟨h27, h⟩ := List.forall_mem_append.mp h
  obtain ⟨h28, h⟩ := List.forall_mem_append.mp h
  obtain ⟨h29, h⟩ := List.forall_mem_append.mp h
  obtain ⟨h30, h⟩ := List.forall_mem_append.mp h
  obtain ⟨h31, h⟩ := List.forall_mem_append.mp h
  obtain ⟨h32, h⟩ := List.forall_mem_append.mp h
  obtain ⟨h33, h⟩ := List.forall_mem_append.mp h
  obtain ⟨h34, h⟩ := List.forall_mem_append.mp h
  obtain ⟨h35, h⟩ := List.forall_mem_append.mp h
  obtain ⟨h36, h⟩ := List.forall_mem_append.mp h
  obtain ⟨h37, h⟩ := List.forall_mem_append.mp h
  obtain ⟨h38, h⟩ := List.forall_mem_append.mp h
  obtain ⟨h39, h⟩ := List.forall_mem_append.mp h
  obtain ⟨h40, h⟩ := List.forall_mem_append.mp h
  obtain ⟨h41, h⟩ := List.forall_mem_append.mp h
  obtain ⟨h42, h⟩ := List.forall_mem_append.mp h
  obtain ⟨h43, h⟩ := List.forall_mem_append.mp h
  have h44 := h
  exact (av_brP (av_brP (av_brP (av_brP (av_brP (av_lqP h0) (av_lqP h1)) (av_brP (av_lqP h2) (av_brP (av_lqP h3) (av_lqP h4)))) (av_brP (av_brP (av_lqP h5) (av_brP (av_lqP h6) (av_lqP h7))) (av_brP (av_lqP h8) (av_brP (av_lqP h9) (av_lqP h10))))) (av_brP (av_brP (av_brP (av_lqP h11) (av_lqP h12)) (av_brP (av_lqP h13) (av_brP (av_lqP h14) (av_lqP h15)))) (av_brP (av_brP (av_lqP h16) (av_brP (av_lqP h17) (av_lqP h18))) (av_brP (av_lqP h19) (av_brP (av_lqP h20) (av_lqP h21)))))) (av_brP (av_brP (av_brP (av_brP (av_lqP h22) (av_lqP h23)) (av_brP (av_lqP h24) (av_brP (av_lqP h25) (av_lqP h26)))) (av_brP (av_brP (av_lqP h27) (av_brP (av_lqP h28) (av_lqP h29))) (av_brP (av_lqP h30) (av_brP (av_lqP h31) (av_lqP h32))))) (av_brP (av_brP (av_brP (av_lqP h33) (av_brP (av_lqP h34) (av_lqP h35))) (av_brP (av_lqP h36) (av_brP (av_lqP h37) (av_lqP h38)))) (av_brP (av_brP (av_lqP h39) (av_brP (av_lqP h40) (av_lqP h41))) (av_brP (av_lqP h42) (av_brP (av_lqP h43) (av_lqP h44)))))))
def cl_214_0 : List (Nat × av_E) := [(0, av_q (.aload_n 0)), (1, av_qf (.getfield 482) 8 62 0), (4, av_q (.iconst 4)), (5, av_qa (.if_icmp .ne 5) 10), (8, av_q (.iconst (-1))), (9, av_q (.ireturn))]
def cl_214_1 : List (Nat × av_E) := [(10, av_q (.aload_n 0)), (11, av_q (.iconst 0)), (12, av_q (.aload_n 0)), (13, av_qf (.getfield 482) 8 62 0), (16, av_q (.iconst 1)), (17, av_q (.iadd))]
def cl_214_2 : List (Nat × av_E) := [(18, av_qc (.invokevirtual 485) 213 2 0 8), (21, av_q (.aload_n 0)), (22, av_q (.dup)), (23, av_qf (.getfield 482) 8 62 0), (26, av_q (.iconst 1)), (27, av_q (.iadd))]
def cl_214_3 : List (Nat × av_E) := [(28, av_qf (.putfield 482) 8 62 0), (31, av_q (.aload_n 0)), (32, av_qf (.getfield 482) 8 62 0), (35, av_q (.iconst 1)), (36, av_q (.isub)), (37, av_q (.ireturn))]
def cf_214 : Nat → Option av_E := (av_br 17 (av_br 9 (av_lq cl_214_0) (av_lq cl_214_1)) (av_br 27 (av_lq cl_214_2) (av_lq cl_214_3)))
set_option maxRecDepth 100000 in
set_option maxHeartbeats 4000000 in
theorem ck_214 : ∀ (pc : Nat) (x : av_E), cf_214 pc = some x → cd_214.lookup pc = some x := by
  have h : ∀ q ∈ cl_214_0 ++ (cl_214_1 ++ (cl_214_2 ++ (cl_214_3))), cd_214.lookup q.1 = some q.2 := av_ascQ (cd := cd_214) (by decide +kernel)
  obtain ⟨h0, h⟩ := List.forall_mem_append.mp h
  obtain ⟨h1, h⟩ := List.forall_mem_append.mp h
  obtain ⟨h2, h⟩ := List.forall_mem_append.mp h
  have h3 := h
  exact (av_brP (av_brP (av_lqP h0) (av_lqP h1)) (av_brP (av_lqP h2) (av_lqP h3)))
def cl_215_0 : List (Nat × av_E) := [(0, av_q (.iload_n 1)), (1, av_q (.iconst 0)), (2, av_q (.aload_n 0)), (3, av_qf (.getfield 482) 8 62 0), (6, av_q (.iconst 1)), (7, av_q (.isub))]
def cl_215_1 : List (Nat × av_E) := [(8, av_qc (.invokestatic 176) 127 3 2 8), (11, av_qa (.ifCond .ne 5) 16), (14, av_q (.iconst 0)), (15, av_qa (.ireturn) 1), (16, av_q (.aload_n 0)), (17, av_q (.iload_n 1))]
def cl_215_2 : List (Nat × av_E) := [(18, av_q (.iconst 1)), (19, av_q (.iadd)), (20, av_q (.iconst 0)), (21, av_qc (.invokevirtual 485) 213 2 0 8), (24, av_q (.iconst 1)), (25, av_qa (.ireturn) 1)]
def cf_215 : Nat → Option av_E := (av_br 7 (av_lq cl_215_0) (av_br 17 (av_lq cl_215_1) (av_lq cl_215_2)))
set_option maxRecDepth 100000 in
set_option maxHeartbeats 4000000 in
theorem ck_215 : ∀ (pc : Nat) (x : av_E), cf_215 pc = some x → cd_215.lookup pc = some x := by
  have h : ∀ q ∈ cl_215_0 ++ (cl_215_1 ++ (cl_215_2)), cd_215.lookup q.1 = some q.2 := av_ascQ (cd := cd_215) (by decide +kernel)
  obtain ⟨h0, h⟩ := List.forall_mem_append.mp h
  obtain ⟨h1, h⟩ := List.forall_mem_append.mp h
  have h2 := h
  exact (av_brP (av_lqP h0) (av_brP (av_lqP h1) (av_lqP h2)))
def cl_216_0 : List (Nat × av_E) := [(0, av_q (.iconst 0)), (1, av_q (.istore_n 1)), (2, av_q (.iconst 0)), (3, av_q (.istore_n 2)), (4, av_q (.iload_n 2)), (5, av_q (.aload_n 0))]
def cl_216_1 : List (Nat × av_E) := [(6, av_qf (.getfield 7) 8 0 2), (9, av_q (.iconst 0)), (10, av_q (.iaload)), (11, av_qa (.if_icmp .ge 18) 29), (14, av_q (.iload_n 1)), (15, av_q (.aload_n 0))]
def cl_216_2 : List (Nat × av_E) := [(16, av_qf (.getfield 19) 8 3 2), (19, av_q (.iload_n 2)), (20, av_q (.iaload)), (21, av_q (.iadd)), (22, av_q (.istore_n 1)), (23, av_q (.iinc 2 1))]
def cl_216_3 : List (Nat × av_E) := [(26, av_qa (.goto (-22)) 4), (29, av_q (.iload_n 1)), (30, av_q (.ireturn))]
def cf_216 : Nat → Option av_E := (av_br 15 (av_br 5 (av_lq cl_216_0) (av_lq cl_216_1)) (av_br 23 (av_lq cl_216_2) (av_lq cl_216_3)))
set_option maxRecDepth 100000 in
set_option maxHeartbeats 4000000 in
theorem ck_216 : ∀ (pc : Nat) (x : av_E), cf_216 pc = some x → cd_216.lookup pc = some x := by
  have h : ∀ q ∈ cl_216_0 ++ (cl_216_1 ++ (cl_216_2 ++ (cl_216_3))), cd_216.lookup q.1 = some q.2 := av_ascQ (cd := cd_216) (by decide +kernel)
  obtain ⟨h0, h⟩ := List.forall_mem_append.mp h
  obtain ⟨h1, h⟩ := List.forall_mem_append.mp h
  obtain ⟨h2, h⟩ := List.forall_mem_append.mp h
  have h3 := h
  exact (av_brP (av_brP (av_lqP h0) (av_lqP h1)) (av_brP (av_lqP h2) (av_lqP h3)))
def cl_217_0 : List (Nat × av_E) := [(0, av_q (.iload_n 1)), (1, av_qw (.tableswitch 75 0 5 #[39, 46, 53, 60, 65, 70]) 39), (40, av_q (.aload_n 0)), (41, av_qf (.getfield 7) 8 0 2), (44, av_q (.iconst 0)), (45, av_q (.iaload))]
def cl_217_1 : List (Nat × av_E) := [(46, av_q (.ireturn)), (47, av_q (.aload_n 0)), (48, av_qf (.getfield 13) 8 1 2), (51, av_q (.iconst 0)), (52, av_q (.iaload)), (53, av_q (.ireturn))]
def cl_217_2 : List (Nat × av_E) := [(54, av_q (.aload_n 0)), (55, av_qf (.getfield 16) 8 2 2), (58, av_q (.iconst 0)), (59, av_q (.iaload)), (60, av_q (.ireturn)), (61, av_q (.aload_n 0))]
def cl_217_3 : List (Nat × av_E) := [(62, av_qf (.getfield 148) 8 17 0), (65, av_q (.ireturn)), (66, av_q (.aload_n 0)), (67, av_qc (.invokevirtual 488) 216 0 0 8), (70, av_q (.ireturn)), (71, av_q (.aload_n 0))]
def cl_217_4 : List (Nat × av_E) := [(72, av_qf (.getfield 482) 8 62 0), (75, av_q (.ireturn)), (76, av_q (.iconst (-1))), (77, av_q (.ireturn))]
def cf_217 : Nat → Option av_E := (av_br 53 (av_br 45 (av_lq cl_217_0) (av_lq cl_217_1)) (av_br 61 (av_lq cl_217_2) (av_br 71 (av_lq cl_217_3) (av_lq cl_217_4))))
set_option maxRecDepth 100000 in
set_option maxHeartbeats 4000000 in
theorem ck_217 : ∀ (pc : Nat) (x : av_E), cf_217 pc = some x → cd_217.lookup pc = some x := by
  have h : ∀ q ∈ cl_217_0 ++ (cl_217_1 ++ (cl_217_2 ++ (cl_217_3 ++ (cl_217_4)))), cd_217.lookup q.1 = some q.2 := av_ascQ (cd := cd_217) (by decide +kernel)
  obtain ⟨h0, h⟩ := List.forall_mem_append.mp h
  obtain ⟨h1, h⟩ := List.forall_mem_append.mp h
  obtain ⟨h2, h⟩ := List.forall_mem_append.mp h
  obtain ⟨h3, h⟩ := List.forall_mem_append.mp h
  have h4 := h
  exact (av_brP (av_brP (av_lqP h0) (av_lqP h1)) (av_brP (av_lqP h2) (av_brP (av_lqP h3) (av_lqP h4))))
def cl_218_0 : List (Nat × av_E) := [(0, av_q (.iload_n 0)), (1, av_q (.iload_n 0)), (2, av_q (.iconst 1)), (3, av_q (.iushr)), (4, av_qk (.ldc_w 265) (1431655765)), (7, av_q (.iand))]
def cl_218_1 : List (Nat × av_E) := [(8, av_q (.isub)), (9, av_q (.istore_n 0)), (10, av_q (.iload_n 0)), (11, av_qk (.ldc_w 266) (858993459)), (14, av_q (.iand)), (15, av_q (.iload_n 0))]
def cl_218_2 : List (Nat × av_E) := [(16, av_q (.iconst 2)), (17, av_q (.iushr)), (18, av_qk (.ldc_w 266) (858993459)), (21, av_q (.iand)), (22, av_q (.iadd)), (23, av_q (.istore_n 0))]
def cl_218_3 : List (Nat × av_E) := [(24, av_q (.iload_n 0)), (25, av_q (.iload_n 0)), (26, av_q (.iconst 4)), (27, av_q (.iushr)), (28, av_q (.iadd)), (29, av_qk (.ldc_w 267) (252645135))]
def cl_218_4 : List (Nat × av_E) := [(32, av_q (.iand)), (33, av_q (.istore_n 0)), (34, av_q (.iload_n 0)), (35, av_q (.iload_n 0)), (36, av_q (.bipush 8)), (38, av_q (.iushr))]
def cl_218_5 : List (Nat × av_E) := [(39, av_q (.iadd)), (40, av_q (.istore_n 0)), (41, av_q (.iload_n 0)), (42, av_q (.iload_n 0)), (43, av_q (.bipush 16)), (45, av_q (.iushr))]
def cl_218_6 : List (Nat × av_E) := [(46, av_q (.iadd)), (47, av_q (.istore_n 0)), (48, av_q (.iload_n 0)), (49, av_q (.bipush 63)), (51, av_q (.iand)), (52, av_q (.ireturn))]
def cf_218 : Nat → Option av_E := (av_br 23 (av_br 7 (av_lq cl_218_0) (av_br 15 (av_lq cl_218_1) (av_lq cl_218_2))) (av_br 38 (av_br 29 (av_lq cl_218_3) (av_lq cl_218_4)) (av_br 45 (av_lq cl_218_5) (av_lq cl_218_6))))
set_option maxRecDepth 100000 in
set_option maxHeartbeats 4000000 in
theorem ck_218 : ∀ (pc : Nat) (x : av_E), cf_218 pc = some x → cd_218.lookup pc = some x := by
  have h : ∀ q ∈ cl_218_0 ++ (cl_218_1 ++ (cl_218_2 ++ (cl_218_3 ++ (cl_218_4 ++ (cl_218_5 ++ (cl_218_6)))))), cd_218.lookup q.1 = some q.2 := av_ascQ (cd := cd_218) (by decide +kernel)
  obtain ⟨h0, h⟩ := List.forall_mem_append.mp h
  obtain ⟨h1, h⟩ := List.forall_mem_append.mp h
  obtain ⟨h2, h⟩ := List.forall_mem_append.mp h
  obtain ⟨h3, h⟩ := List.forall_mem_append.mp h
  obtain ⟨h4, h⟩ := List.forall_mem_append.mp h
  obtain ⟨h5, h⟩ := List.forall_mem_append.mp h
  have h6 := h
  exact (av_brP (av_brP (av_lqP h0) (av_brP (av_lqP h1) (av_lqP h2))) (av_brP (av_brP (av_lqP h3) (av_lqP h4)) (av_brP (av_lqP h5) (av_lqP h6))))
def cl_219_0 : List (Nat × av_E) := [(0, av_q (.iload_n 1)), (1, av_q (.iload_n 2)), (2, av_qa (.if_icmp .le 44) 46), (46, av_q (.iload_n 1)), (47, av_qa (.ifCond .ge 12) 59), (59, av_q (.iload_n 2))]
def cl_219_1 : List (Nat × av_E) := [(60, av_q (.iload_n 0)), (61, av_qa (.if_icmp .le 12) 73), (73, av_q (.return_))]
def cf_219 : Nat → Option av_E := (av_br 59 (av_lq cl_219_0) (av_lq cl_219_1))
set_option maxRecDepth 100000 in
set_option maxHeartbeats 4000000 in
theorem ck_219 : ∀ (pc : Nat) (x : av_E), cf_219 pc = some x → cd_219.lookup pc = some x := by
  have h : ∀ q ∈ cl_219_0 ++ (cl_219_1), cd_219.lookup q.1 = some q.2 := av_ascQ (cd := cd_219) (by decide +kernel)
  obtain ⟨h0, h⟩ := List.forall_mem_append.mp h
  have h1 := h
  exact (av_brP (av_lqP h0) (av_lqP h1))
def cl_220_0 : List (Nat × av_E) := [(0, av_q (.iconst 0)), (1, av_q (.istore_n 2)), (2, av_q (.aload_n 0)), (3, av_q (.arraylength)), (4, av_q (.istore_n 3)), (5, av_q (.iload_n 2))]
def cl_220_1 : List (Nat × av_E) := [(6, av_q (.iload_n 3)), (7, av_qa (.if_icmp .ge 13) 20), (10, av_q (.aload_n 0)), (11, av_q (.iload_n 2)), (12, av_q (.iload_n 1)), (13, av_q (.iastore))]
def cl_220_2 : List (Nat × av_E) := [(14, av_q (.iinc 2 1)), (17, av_qa (.goto (-12)) 5), (20, av_q (.return_))]
def cf_220 : Nat → Option av_E := (av_br 5 (av_lq cl_220_0) (av_br 13 (av_lq cl_220_1) (av_lq cl_220_2)))
set_option maxRecDepth 100000 in
set_option maxHeartbeats 4000000 in
theorem ck_220 : ∀ (pc : Nat) (x : av_E), cf_220 pc = some x → cd_220.lookup pc = some x := by
  have h : ∀ q ∈ cl_220_0 ++ (cl_220_1 ++ (cl_220_2)), cd_220.lookup q.1 = some q.2 := av_ascQ (cd := cd_220) (by decide +kernel)
  obtain ⟨h0, h⟩ := List.forall_mem_append.mp h
  obtain ⟨h1, h⟩ := List.forall_mem_append.mp h
  have h2 := h
  exact (av_brP (av_lqP h0) (av_brP (av_lqP h1) (av_lqP h2)))
def cl_221_0 : List (Nat × av_E) := [(0, av_q (.aload_n 0)), (1, av_q (.arraylength)), (2, av_q (.iload_n 1)), (3, av_q (.iload_n 2)), (4, av_qc (.invokestatic 13) 219 3 2 10), (7, av_q (.iload_n 1))]
def cl_221_1 : List (Nat × av_E) := [(8, av_q (.istore 4)), (10, av_q (.iload 4)), (12, av_q (.iload_n 2)), (13, av_qa (.if_icmp .ge 14) 27), (16, av_q (.aload_n 0)), (17, av_q (.iload 4))]
def cl_221_2 : List (Nat × av_E) := [(19, av_q (.iload_n 3)), (20, av_q (.iastore)), (21, av_q (.iinc 4 1)), (24, av_qa (.goto (-14)) 10), (27, av_q (.return_))]
def cf_221 : Nat → Option av_E := (av_br 7 (av_lq cl_221_0) (av_br 17 (av_lq cl_221_1) (av_lq cl_221_2)))
set_option maxRecDepth 100000 in
set_option maxHeartbeats 4000000 in
theorem ck_221 : ∀ (pc : Nat) (x : av_E), cf_221 pc = some x → cd_221.lookup pc = some x := by
  have h : ∀ q ∈ cl_221_0 ++ (cl_221_1 ++ (cl_221_2)), cd_221.lookup q.1 = some q.2 := av_ascQ (cd := cd_221) (by decide +kernel)
  obtain ⟨h0, h⟩ := List.forall_mem_append.mp h
  obtain ⟨h1, h⟩ := List.forall_mem_append.mp h
  have h2 := h
  exact (av_brP (av_lqP h0) (av_brP (av_lqP h1) (av_lqP h2)))
def cl_222_0 : List (Nat × av_E) := [(0, av_q (.iload_n 1)), (1, av_q (.aload_n 0)), (2, av_q (.arraylength)), (3, av_qa (.if_icmp .ne 11) 14), (6, av_q (.aload_n 0)), (7, av_qa (.invokevirtual 316) 1004)]
def cl_222_1 : List (Nat × av_E) := [(10, av_q (.checkcast 317)), (13, av_q (.areturn)), (14, av_q (.iload_n 1)), (15, av_q (.newarray .int)), (17, av_q (.astore_n 2)), (18, av_q (.aload_n 0))]
def cl_222_2 : List (Nat × av_E) := [(19, av_q (.iconst 0)), (20, av_q (.aload_n 2)), (21, av_q (.iconst 0)), (22, av_q (.aload_n 0)), (23, av_q (.arraylength)), (24, av_q (.iload_n 1))]
def cl_222_3 : List (Nat × av_E) := [(25, av_qa (.invokestatic 304) 1002), (28, av_qa (.invokestatic 150) 1003), (31, av_q (.aload_n 2)), (32, av_q (.areturn))]
def cf_222 : Nat → Option av_E := (av_br 18 (av_br 7 (av_lq cl_222_0) (av_lq cl_222_1)) (av_br 24 (av_lq cl_222_2) (av_lq cl_222_3)))
set_option maxRecDepth 100000 in
set_option maxHeartbeats 4000000 in
theorem ck_222 : ∀ (pc : Nat) (x : av_E), cf_222 pc = some x → cd_222.lookup pc = some x := by
  have h : ∀ q ∈ cl_222_0 ++ (cl_222_1 ++ (cl_222_2 ++ (cl_222_3))), cd_222.lookup q.1 = some q.2 := av_ascQ (cd := cd_222) (by decide +kernel)
  obtain ⟨h0, h⟩ := List.forall_mem_append.mp h
  obtain ⟨h1, h⟩ := List.forall_mem_append.mp h
  obtain ⟨h2, h⟩ := List.forall_mem_append.mp h
  have h3 := h
  exact (av_brP (av_brP (av_lqP h0) (av_lqP h1)) (av_brP (av_lqP h2) (av_lqP h3)))
