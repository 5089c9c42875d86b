/-! THE REFERENCE'S READER OF SAYINGS, by the class's functions -/
set_option maxRecDepth 100000 in
set_option maxHeartbeats 4000000 in
theorem ct_141a {g h : av_H} {b : Nat → Int} {lim : Nat} {t : TT} {x17 : Int} {A0 : Nat → Nat → Int} {i : Nat} {R : Nat → Int} (M : MR b lim t x17 A0 i R h) (F : FD g h) (hi : i < 960) {s w : Nat} {r : Nat → Int} {row : Nat} (X : RX s w t R r row) (x : Int) (ex : x = (i : Int))  {Q : Option av_V → av_H → Prop} (hq : ∀ h' R', MR b lim (rsW b lim row 900 t r).1 x17 A0 i R' h' → FD g h' → RX s w (rsW b lim row 900 t r).1 R' (rsW b lim row 900 t r).2 row → Q none h') : av_wp none cd_141 0 [some (.inr (.inr (.inl (some (77))))), some (.inl x), some (.inl (0)), none] [] h Q := by
  subst ex
  refine av_wp_sqF ck_141 2 (pc' := 15) (lv' := [some (.inr (.inr (.inl (some (77))))), some (.inl (i : Int)), some (.inl (0)), none]) (st' := []) (h' := h) rfl ?_
  have L4 : ∀ (n : Nat) (t1 : TT) (r1 R1 : Nat → Int) (h1 : av_H) (a1 : Option av_V), av_lg a1 = false → MR b lim t1 x17 A0 i R1 h1 → FD g h1 → RX s w t1 R1 r1 row → (pkv b t1 2 ≠ -1 → lim - t1.2.1 < n) → rsW b lim row n t1 r1 = rsW b lim row 900 t r → av_wp none cd_141 15 [some (.inr (.inr (.inl (some (77))))), some (.inl (i : Int)), some (.inl (0)), a1] [] h1 Q := by
    intro n
    induction n with
    | zero =>
      intro t1 r1 R1 h1 a1 la1 M1 F1 X1 hm he
      have hm0 : pkv b t1 2 = -1 := by by_cases z : pkv b t1 2 = -1; exact z; exact absurd (hm z) (by omega)
      refine av_wp_sqF ck_141 1 (pc' := 16) (lv' := [some (.inr (.inr (.inl (some (77))))), some (.inl (i : Int)), some (.inl (0)), a1]) (st' := [.inr (.inr (.inl (some (77))))]) (h' := h1) rfl ?_
      refine wq_cv (p' := 19) (av_qc (.invokevirtual 229) 138 0 0 8) 1 cd_138 [] (77) 8 [some (.inr (.inr (.inl (some (77)))))] (ck_141 _ _ rfl) rfl rfl pp_138 rfl rfl rfl (congrArg Prod.fst (ly_k (mr_L M1) 77 rfl)) rfl rfl rfl rfl ?_
      refine ct_138 M1.1 F1 (fun v5 p6 => ?_)
      show av_wp _ cd_141 19 [some (.inr (.inr (.inl (some (77))))), some (.inl (i : Int)), some (.inl (0)), a1] [.inl v5] h1 _
      refine wq_k1 (p' := 22) (ck_141 _ _ rfl) rfl ⟨by omega, by omega⟩ (fun c7 => ?_) (fun c8 => ?_)
      · have c7 : v5 < (0) := c7
        refine av_wp_ret (v := none) (ck_141 _ _ rfl) rfl rfl ?_
        have z9 : rsW b lim row 0 t1 r1 = (t1, r1) := rsW_e (by omega)
        rw [z9] at he
        exact hq h1 R1 (by rw [← he]; exact M1) F1 (by rw [← he]; exact X1)
      · have c8 : (0) ≤ v5 := c8
        exfalso
        omega
    | succ n ih =>
      intro t1 r1 R1 h1 a1 la1 M1 F1 X1 hm he
      refine av_wp_sqF ck_141 1 (pc' := 16) (lv' := [some (.inr (.inr (.inl (some (77))))), some (.inl (i : Int)), some (.inl (0)), a1]) (st' := [.inr (.inr (.inl (some (77))))]) (h' := h1) rfl ?_
      refine wq_cv (p' := 19) (av_qc (.invokevirtual 229) 138 0 0 8) 1 cd_138 [] (77) 8 [some (.inr (.inr (.inl (some (77)))))] (ck_141 _ _ rfl) rfl rfl pp_138 rfl rfl rfl (congrArg Prod.fst (ly_k (mr_L M1) 77 rfl)) rfl rfl rfl rfl ?_
      refine ct_138 M1.1 F1 (fun v10 p11 => ?_)
      show av_wp _ cd_141 19 [some (.inr (.inr (.inl (some (77))))), some (.inl (i : Int)), some (.inl (0)), a1] [.inl v10] h1 _
      refine wq_k1 (p' := 22) (ck_141 _ _ rfl) rfl ⟨by omega, by omega⟩ (fun c12 => ?_) (fun c13 => ?_)
      · have c12 : v10 < (0) := c12
        refine av_wp_ret (v := none) (ck_141 _ _ rfl) rfl rfl ?_
        have z14 : rsW b lim row (n + 1) t1 r1 = (t1, r1) := rsW_e (by omega)
        rw [z14] at he
        exact hq h1 R1 (by rw [← he]; exact M1) F1 (by rw [← he]; exact X1)
      · have c13 : (0) ≤ v10 := c13
        have z15 : ¬ pkv b t1 2 = -1 := by omega
        refine av_wp_sqF ck_141 1 (pc' := 23) (lv' := [some (.inr (.inr (.inl (some (77))))), some (.inl (i : Int)), some (.inl (0)), a1]) (st' := [.inr (.inr (.inl (some (77))))]) (h' := h1) rfl ?_
        refine wq_cv (p' := 26) (av_qc (.invokevirtual 229) 138 0 0 8) 1 cd_138 [] (77) 8 [some (.inr (.inr (.inl (some (77)))))] (ck_141 _ _ rfl) rfl rfl pp_138 rfl rfl rfl (congrArg Prod.fst (ly_k (mr_L M1) 77 rfl)) rfl rfl rfl rfl ?_
        refine ct_138 M1.1 F1 (fun v16 p17 => ?_)
        show av_wp _ cd_141 26 [some (.inr (.inr (.inl (some (77))))), some (.inl (i : Int)), some (.inl (0)), a1] [.inl v16] h1 _
        have q18 : pkv b t1 2 = v16 := by omega
        refine av_wp_sqF ck_141 2 (pc' := 28) (lv' := [some (.inr (.inr (.inl (some (77))))), some (.inl (i : Int)), some (.inl (0)), some (.inl v16)]) (st' := [.inr (.inr (.inl (some (77))))]) (h' := h1) rfl ?_
        refine wq_cv (p' := 31) (av_qc (.invokevirtual 191) 130 0 0 8) 2 cd_130 [] (77) 8 [some (.inr (.inr (.inl (some (77))))), none] (ck_141 _ _ rfl) rfl rfl pp_130 rfl rfl rfl (congrArg Prod.fst (ly_k (mr_L M1) 77 rfl)) rfl rfl rfl rfl ?_
        refine ct_130t M1.1 F1 (fun h19 N20 F21 => ?_)
        have M22 := mr_tok M1 N20
        clear N20
        generalize q24 : adv b lim t1 = t23 at M22
        have X25 : RX s w t23 R1 r1 row := rx_t X1 (fun z => by rw [← q24] at z; exact z)
        show av_wp _ cd_141 31 [some (.inr (.inr (.inl (some (77))))), some (.inl (i : Int)), some (.inl (0)), some (.inl v16)] [] h19 _
        refine av_wp_sqF ck_141 1 (pc' := 32) (lv' := [some (.inr (.inr (.inl (some (77))))), some (.inl (i : Int)), some (.inl (0)), some (.inl v16)]) (st' := [.inr (.inr (.inl (some (77))))]) (h' := h19) rfl ?_
        refine wq_gr (p' := 35) (ck_141 _ _ rfl) rfl (congrArg Prod.fst (ly_k (mr_L M22) 77 rfl)) rfl (ly_g (mr_L M22) 77 12 90 rfl) ?_
        refine av_wp_sqF ck_141 8 (pc' := 45) (lv' := [some (.inr (.inr (.inl (some (77))))), some (.inl (i : Int)), some (.inl (0)), some (.inl v16)]) (st' := [.inl (999), .inl (0), .inr (.inr (.inl (some (77)))), .inl (((5) * (i : Int)) + v16), .inr (.inr (.inl (some (90))))]) (h' := h19) rfl ?_
        refine wq_cv (p' := 48) (av_qc (.invokevirtual 232) 134 2 0 8) 4 cd_134 [.inl (999), .inl (0)] (77) 8 [some (.inr (.inr (.inl (some (77))))), some (.inl (0)), some (.inl (999)), none] (ck_141 _ _ rfl) rfl rfl pp_134 rfl rfl rfl (congrArg Prod.fst (ly_k (mr_L M22) 77 rfl)) rfl rfl rfl rfl ?_
        refine ct_134 M22.1 F21 (0) (999) (by omega) (by omega) (fun v26 h29 N30 E27 F31 P28 => ?_)
        have M32 := mr_tok M22 N30
        clear N30
        generalize q34 : nmt b lim t23 (0) (999) = t33 at M32 E27
        have X35 : RX s w t33 R1 r1 row := rx_t X25 (fun z => (nmt_o (by rw [q34]; exact z)).1)
        show av_wp _ cd_141 48 [some (.inr (.inr (.inl (some (77))))), some (.inl (i : Int)), some (.inl (0)), some (.inl v16)] [.inl v26, .inl (((5) * (i : Int)) + v16), .inr (.inr (.inl (some (90))))] h29 _
        refine mr_as (p' := 49) rfl rfl M32 F31 (by omega) (10 + Int.toNat v16) (by omega) (by rw [(vk90 (i := i) (w := Int.toNat v16) (by omega)).1]; omega) (vk90 (i := i) (w := Int.toNat v16) (by omega)).2 (by show (-1 : Int) ≤ v26 ∧ v26 ≤ (999 : Int); omega) (fun h36 M37 F38 => ?_)
        have X39 : RX s w t33 (av_u1 R1 (10 + Int.toNat v16) v26) (av_u1 r1 (row + 10 + Int.toNat v16) (nmv b t23 (0) (999))) row := rx_u X35 (by omega) (by omega) E27
        refine av_wp_sqF ck_141 1 (pc' := 15) (lv' := [some (.inr (.inr (.inl (some (77))))), some (.inl (i : Int)), some (.inl (0)), some (.inl v16)]) (st' := []) (h' := h36) rfl ?_
        exact ih _ _ _ _ _ rfl M37 F38 X39 (fun z => by rw [← q34, ← q24] at z ⊢; exact rsW_m M1.1.2.1 (hm z15) z15 z) (by rw [← he, rsW_g z15, q24, q34, q18])
  exact L4 900 t r R h _ rfl M F X (fun z => by have z1 := pkv_p M.1.2.2 z; have z2 := M.1.2.1.2.1; have z3 := M.1.2.1.2.2.1; omega) rfl

set_option maxRecDepth 100000 in
set_option maxHeartbeats 4000000 in
theorem ct_141b {g h : av_H} {b : Nat → Int} {lim : Nat} {t : TT} {x17 : Int} {A0 : Nat → Nat → Int} {i : Nat} {R : Nat → Int} (M : MR b lim t x17 A0 i R h) (F : FD g h) (hi : i < 960) {s w : Nat} {r : Nat → Int} {row : Nat} (X : RX s w t R r row) (x : Int) (ex : x = (i : Int))  {Q : Option av_V → av_H → Prop} (hq : ∀ h' R', MR b lim (rsW b lim row 900 (if pkv b t 2 = -1 then fal t else t) r).1 x17 A0 i R' h' → FD g h' → RX s w (rsW b lim row 900 (if pkv b t 2 = -1 then fal t else t) r).1 R' (rsW b lim row 900 (if pkv b t 2 = -1 then fal t else t) r).2 row → Q none h') : av_wp none cd_141 0 [some (.inr (.inr (.inl (some (77))))), some (.inl x), some (.inl (1)), none] [] h Q := by
  subst ex
  refine av_wp_sqF ck_141 3 (pc' := 5) (lv' := [some (.inr (.inr (.inl (some (77))))), some (.inl (i : Int)), some (.inl (1)), none]) (st' := [.inr (.inr (.inl (some (77))))]) (h' := h) rfl ?_
  refine wq_cv (p' := 8) (av_qc (.invokevirtual 229) 138 0 0 8) 1 cd_138 [] (77) 8 [some (.inr (.inr (.inl (some (77)))))] (ck_141 _ _ rfl) rfl rfl pp_138 rfl rfl rfl (congrArg Prod.fst (ly_k (mr_L M) 77 rfl)) rfl rfl rfl rfl ?_
  refine ct_138 M.1 F (fun v1 p2 => ?_)
  show av_wp _ cd_141 8 [some (.inr (.inr (.inl (some (77))))), some (.inl (i : Int)), some (.inl (1)), none] [.inl v1] h _
  refine wq_k1 (p' := 11) (ck_141 _ _ rfl) rfl ⟨by omega, by omega⟩ (fun c3 => ?_) (fun c4 => ?_)
  · have c3 : (0) ≤ v1 := c3
    have z5 : (if pkv b t 2 = -1 then fal t else t) = t := if_neg (by omega)
    have L8 : ∀ (n : Nat) (t1 : TT) (r1 R1 : Nat → Int) (h1 : av_H) (a1 : Option av_V), av_lg a1 = false → MR b lim t1 x17 A0 i R1 h1 → FD g h1 → RX s w t1 R1 r1 row → (pkv b t1 2 ≠ -1 → lim - t1.2.1 < n) → rsW b lim row n t1 r1 = rsW b lim row 900 t r → av_wp none cd_141 15 [some (.inr (.inr (.inl (some (77))))), some (.inl (i : Int)), some (.inl (1)), a1] [] h1 Q := by
      intro n
      induction n with
      | zero =>
        intro t1 r1 R1 h1 a1 la1 M1 F1 X1 hm he
        have hm0 : pkv b t1 2 = -1 := by by_cases z : pkv b t1 2 = -1; exact z; exact absurd (hm z) (by omega)
        refine av_wp_sqF ck_141 1 (pc' := 16) (lv' := [some (.inr (.inr (.inl (some (77))))), some (.inl (i : Int)), some (.inl (1)), a1]) (st' := [.inr (.inr (.inl (some (77))))]) (h' := h1) rfl ?_
        refine wq_cv (p' := 19) (av_qc (.invokevirtual 229) 138 0 0 8) 1 cd_138 [] (77) 8 [some (.inr (.inr (.inl (some (77)))))] (ck_141 _ _ rfl) rfl rfl pp_138 rfl rfl rfl (congrArg Prod.fst (ly_k (mr_L M1) 77 rfl)) rfl rfl rfl rfl ?_
        refine ct_138 M1.1 F1 (fun v9 p10 => ?_)
        show av_wp _ cd_141 19 [some (.inr (.inr (.inl (some (77))))), some (.inl (i : Int)), some (.inl (1)), a1] [.inl v9] h1 _
        refine wq_k1 (p' := 22) (ck_141 _ _ rfl) rfl ⟨by omega, by omega⟩ (fun c11 => ?_) (fun c12 => ?_)
        · have c11 : v9 < (0) := c11
          refine av_wp_ret (v := none) (ck_141 _ _ rfl) rfl rfl ?_
          have z13 : rsW b lim row 0 t1 r1 = (t1, r1) := rsW_e (by omega)
          rw [z13] at he
          exact hq h1 R1 (by rw [z5, ← he]; exact M1) F1 (by rw [z5, ← he]; exact X1)
        · have c12 : (0) ≤ v9 := c12
          exfalso
          omega
      | succ n ih =>
        intro t1 r1 R1 h1 a1 la1 M1 F1 X1 hm he
        refine av_wp_sqF ck_141 1 (pc' := 16) (lv' := [some (.inr (.inr (.inl (some (77))))), some (.inl (i : Int)), some (.inl (1)), a1]) (st' := [.inr (.inr (.inl (some (77))))]) (h' := h1) rfl ?_
        refine wq_cv (p' := 19) (av_qc (.invokevirtual 229) 138 0 0 8) 1 cd_138 [] (77) 8 [some (.inr (.inr (.inl (some (77)))))] (ck_141 _ _ rfl) rfl rfl pp_138 rfl rfl rfl (congrArg Prod.fst (ly_k (mr_L M1) 77 rfl)) rfl rfl rfl rfl ?_
        refine ct_138 M1.1 F1 (fun v14 p15 => ?_)
        show av_wp _ cd_141 19 [some (.inr (.inr (.inl (some (77))))), some (.inl (i : Int)), some (.inl (1)), a1] [.inl v14] h1 _
        refine wq_k1 (p' := 22) (ck_141 _ _ rfl) rfl ⟨by omega, by omega⟩ (fun c16 => ?_) (fun c17 => ?_)
        · have c16 : v14 < (0) := c16
          refine av_wp_ret (v := none) (ck_141 _ _ rfl) rfl rfl ?_
          have z18 : rsW b lim row (n + 1) t1 r1 = (t1, r1) := rsW_e (by omega)
          rw [z18] at he
          exact hq h1 R1 (by rw [z5, ← he]; exact M1) F1 (by rw [z5, ← he]; exact X1)
        · have c17 : (0) ≤ v14 := c17
          have z19 : ¬ pkv b t1 2 = -1 := by omega
          refine av_wp_sqF ck_141 1 (pc' := 23) (lv' := [some (.inr (.inr (.inl (some (77))))), some (.inl (i : Int)), some (.inl (1)), a1]) (st' := [.inr (.inr (.inl (some (77))))]) (h' := h1) rfl ?_
          refine wq_cv (p' := 26) (av_qc (.invokevirtual 229) 138 0 0 8) 1 cd_138 [] (77) 8 [some (.inr (.inr (.inl (some (77)))))] (ck_141 _ _ rfl) rfl rfl pp_138 rfl rfl rfl (congrArg Prod.fst (ly_k (mr_L M1) 77 rfl)) rfl rfl rfl rfl ?_
          refine ct_138 M1.1 F1 (fun v20 p21 => ?_)
          show av_wp _ cd_141 26 [some (.inr (.inr (.inl (some (77))))), some (.inl (i : Int)), some (.inl (1)), a1] [.inl v20] h1 _
          have q22 : pkv b t1 2 = v20 := by omega
          refine av_wp_sqF ck_141 2 (pc' := 28) (lv' := [some (.inr (.inr (.inl (some (77))))), some (.inl (i : Int)), some (.inl (1)), some (.inl v20)]) (st' := [.inr (.inr (.inl (some (77))))]) (h' := h1) rfl ?_
          refine wq_cv (p' := 31) (av_qc (.invokevirtual 191) 130 0 0 8) 2 cd_130 [] (77) 8 [some (.inr (.inr (.inl (some (77))))), none] (ck_141 _ _ rfl) rfl rfl pp_130 rfl rfl rfl (congrArg Prod.fst (ly_k (mr_L M1) 77 rfl)) rfl rfl rfl rfl ?_
          refine ct_130t M1.1 F1 (fun h23 N24 F25 => ?_)
          have M26 := mr_tok M1 N24
          clear N24
          generalize q28 : adv b lim t1 = t27 at M26
          have X29 : RX s w t27 R1 r1 row := rx_t X1 (fun z => by rw [← q28] at z; exact z)
          show av_wp _ cd_141 31 [some (.inr (.inr (.inl (some (77))))), some (.inl (i : Int)), some (.inl (1)), some (.inl v20)] [] h23 _
          refine av_wp_sqF ck_141 1 (pc' := 32) (lv' := [some (.inr (.inr (.inl (some (77))))), some (.inl (i : Int)), some (.inl (1)), some (.inl v20)]) (st' := [.inr (.inr (.inl (some (77))))]) (h' := h23) rfl ?_
          refine wq_gr (p' := 35) (ck_141 _ _ rfl) rfl (congrArg Prod.fst (ly_k (mr_L M26) 77 rfl)) rfl (ly_g (mr_L M26) 77 12 90 rfl) ?_
          refine av_wp_sqF ck_141 8 (pc' := 45) (lv' := [some (.inr (.inr (.inl (some (77))))), some (.inl (i : Int)), some (.inl (1)), some (.inl v20)]) (st' := [.inl (999), .inl (0), .inr (.inr (.inl (some (77)))), .inl (((5) * (i : Int)) + v20), .inr (.inr (.inl (some (90))))]) (h' := h23) rfl ?_
          refine wq_cv (p' := 48) (av_qc (.invokevirtual 232) 134 2 0 8) 4 cd_134 [.inl (999), .inl (0)] (77) 8 [some (.inr (.inr (.inl (some (77))))), some (.inl (0)), some (.inl (999)), none] (ck_141 _ _ rfl) rfl rfl pp_134 rfl rfl rfl (congrArg Prod.fst (ly_k (mr_L M26) 77 rfl)) rfl rfl rfl rfl ?_
          refine ct_134 M26.1 F25 (0) (999) (by omega) (by omega) (fun v30 h33 N34 E31 F35 P32 => ?_)
          have M36 := mr_tok M26 N34
          clear N34
          generalize q38 : nmt b lim t27 (0) (999) = t37 at M36 E31
          have X39 : RX s w t37 R1 r1 row := rx_t X29 (fun z => (nmt_o (by rw [q38]; exact z)).1)
          show av_wp _ cd_141 48 [some (.inr (.inr (.inl (some (77))))), some (.inl (i : Int)), some (.inl (1)), some (.inl v20)] [.inl v30, .inl (((5) * (i : Int)) + v20), .inr (.inr (.inl (some (90))))] h33 _
          refine mr_as (p' := 49) rfl rfl M36 F35 (by omega) (10 + Int.toNat v20) (by omega) (by rw [(vk90 (i := i) (w := Int.toNat v20) (by omega)).1]; omega) (vk90 (i := i) (w := Int.toNat v20) (by omega)).2 (by show (-1 : Int) ≤ v30 ∧ v30 ≤ (999 : Int); omega) (fun h40 M41 F42 => ?_)
          have X43 : RX s w t37 (av_u1 R1 (10 + Int.toNat v20) v30) (av_u1 r1 (row + 10 + Int.toNat v20) (nmv b t27 (0) (999))) row := rx_u X39 (by omega) (by omega) E31
          refine av_wp_sqF ck_141 1 (pc' := 15) (lv' := [some (.inr (.inr (.inl (some (77))))), some (.inl (i : Int)), some (.inl (1)), some (.inl v20)]) (st' := []) (h' := h40) rfl ?_
          exact ih _ _ _ _ _ rfl M41 F42 X43 (fun z => by rw [← q38, ← q28] at z ⊢; exact rsW_m M1.1.2.1 (hm z19) z19 z) (by rw [← he, rsW_g z19, q28, q38, q22])
    exact L8 900 t r R h _ rfl M F X (fun z => by have z1 := pkv_p M.1.2.2 z; have z2 := M.1.2.1.2.1; have z3 := M.1.2.1.2.2.1; omega) rfl
  · have c4 : v1 < (0) := c4
    refine av_wp_sqF ck_141 1 (pc' := 12) (lv' := [some (.inr (.inr (.inl (some (77))))), some (.inl (i : Int)), some (.inl (1)), none]) (st' := [.inr (.inr (.inl (some (77))))]) (h' := h) rfl ?_
    refine wq_cv (p' := 15) (av_qc (.invokevirtual 194) 131 0 0 8) 1 cd_131 [] (77) 8 [some (.inr (.inr (.inl (some (77)))))] (ck_141 _ _ rfl) rfl rfl pp_131 rfl rfl rfl (congrArg Prod.fst (ly_k (mr_L M) 77 rfl)) rfl rfl rfl rfl ?_
    refine ct_131 M.1 F (fun h44 N45 F46 => ?_)
    have M47 := mr_tok M N45
    clear N45
    generalize q49 : fal t = t48 at M47
    have X50 : RX s w t48 R r row := rx_t X (fun z => by rw [← q49] at z; exact absurd z fal_ne)
    show av_wp _ cd_141 15 [some (.inr (.inr (.inl (some (77))))), some (.inl (i : Int)), some (.inl (1)), none] [] h44 _
    have z51 : (if pkv b t 2 = -1 then fal t else t) = t48 := by rw [if_pos (by omega)]; exact q49
    have L54 : ∀ (n : Nat) (t1 : TT) (r1 R1 : Nat → Int) (h1 : av_H) (a1 : Option av_V), av_lg a1 = false → MR b lim t1 x17 A0 i R1 h1 → FD g h1 → RX s w t1 R1 r1 row → (pkv b t1 2 ≠ -1 → lim - t1.2.1 < n) → rsW b lim row n t1 r1 = rsW b lim row 900 t48 r → av_wp none cd_141 15 [some (.inr (.inr (.inl (some (77))))), some (.inl (i : Int)), some (.inl (1)), a1] [] h1 Q := by
      intro n
      induction n with
      | zero =>
        intro t1 r1 R1 h1 a1 la1 M1 F1 X1 hm he
        have hm0 : pkv b t1 2 = -1 := by by_cases z : pkv b t1 2 = -1; exact z; exact absurd (hm z) (by omega)
        refine av_wp_sqF ck_141 1 (pc' := 16) (lv' := [some (.inr (.inr (.inl (some (77))))), some (.inl (i : Int)), some (.inl (1)), a1]) (st' := [.inr (.inr (.inl (some (77))))]) (h' := h1) rfl ?_
        refine wq_cv (p' := 19) (av_qc (.invokevirtual 229) 138 0 0 8) 1 cd_138 [] (77) 8 [some (.inr (.inr (.inl (some (77)))))] (ck_141 _ _ rfl) rfl rfl pp_138 rfl rfl rfl (congrArg Prod.fst (ly_k (mr_L M1) 77 rfl)) rfl rfl rfl rfl ?_
        refine ct_138 M1.1 F1 (fun v55 p56 => ?_)
        show av_wp _ cd_141 19 [some (.inr (.inr (.inl (some (77))))), some (.inl (i : Int)), some (.inl (1)), a1] [.inl v55] h1 _
        refine wq_k1 (p' := 22) (ck_141 _ _ rfl) rfl ⟨by omega, by omega⟩ (fun c57 => ?_) (fun c58 => ?_)
        · have c57 : v55 < (0) := c57
          refine av_wp_ret (v := none) (ck_141 _ _ rfl) rfl rfl ?_
          have z59 : rsW b lim row 0 t1 r1 = (t1, r1) := rsW_e (by omega)
          rw [z59] at he
          exact hq h1 R1 (by rw [z51, ← he]; exact M1) F1 (by rw [z51, ← he]; exact X1)
        · have c58 : (0) ≤ v55 := c58
          exfalso
          omega
      | succ n ih =>
        intro t1 r1 R1 h1 a1 la1 M1 F1 X1 hm he
        refine av_wp_sqF ck_141 1 (pc' := 16) (lv' := [some (.inr (.inr (.inl (some (77))))), some (.inl (i : Int)), some (.inl (1)), a1]) (st' := [.inr (.inr (.inl (some (77))))]) (h' := h1) rfl ?_
        refine wq_cv (p' := 19) (av_qc (.invokevirtual 229) 138 0 0 8) 1 cd_138 [] (77) 8 [some (.inr (.inr (.inl (some (77)))))] (ck_141 _ _ rfl) rfl rfl pp_138 rfl rfl rfl (congrArg Prod.fst (ly_k (mr_L M1) 77 rfl)) rfl rfl rfl rfl ?_
        refine ct_138 M1.1 F1 (fun v60 p61 => ?_)
        show av_wp _ cd_141 19 [some (.inr (.inr (.inl (some (77))))), some (.inl (i : Int)), some (.inl (1)), a1] [.inl v60] h1 _
        refine wq_k1 (p' := 22) (ck_141 _ _ rfl) rfl ⟨by omega, by omega⟩ (fun c62 => ?_) (fun c63 => ?_)
        · have c62 : v60 < (0) := c62
          refine av_wp_ret (v := none) (ck_141 _ _ rfl) rfl rfl ?_
          have z64 : rsW b lim row (n + 1) t1 r1 = (t1, r1) := rsW_e (by omega)
          rw [z64] at he
          exact hq h1 R1 (by rw [z51, ← he]; exact M1) F1 (by rw [z51, ← he]; exact X1)
        · have c63 : (0) ≤ v60 := c63
          have z65 : ¬ pkv b t1 2 = -1 := by omega
          refine av_wp_sqF ck_141 1 (pc' := 23) (lv' := [some (.inr (.inr (.inl (some (77))))), some (.inl (i : Int)), some (.inl (1)), a1]) (st' := [.inr (.inr (.inl (some (77))))]) (h' := h1) rfl ?_
          refine wq_cv (p' := 26) (av_qc (.invokevirtual 229) 138 0 0 8) 1 cd_138 [] (77) 8 [some (.inr (.inr (.inl (some (77)))))] (ck_141 _ _ rfl) rfl rfl pp_138 rfl rfl rfl (congrArg Prod.fst (ly_k (mr_L M1) 77 rfl)) rfl rfl rfl rfl ?_
          refine ct_138 M1.1 F1 (fun v66 p67 => ?_)
          show av_wp _ cd_141 26 [some (.inr (.inr (.inl (some (77))))), some (.inl (i : Int)), some (.inl (1)), a1] [.inl v66] h1 _
          have q68 : pkv b t1 2 = v66 := by omega
          refine av_wp_sqF ck_141 2 (pc' := 28) (lv' := [some (.inr (.inr (.inl (some (77))))), some (.inl (i : Int)), some (.inl (1)), some (.inl v66)]) (st' := [.inr (.inr (.inl (some (77))))]) (h' := h1) rfl ?_
          refine wq_cv (p' := 31) (av_qc (.invokevirtual 191) 130 0 0 8) 2 cd_130 [] (77) 8 [some (.inr (.inr (.inl (some (77))))), none] (ck_141 _ _ rfl) rfl rfl pp_130 rfl rfl rfl (congrArg Prod.fst (ly_k (mr_L M1) 77 rfl)) rfl rfl rfl rfl ?_
          refine ct_130t M1.1 F1 (fun h69 N70 F71 => ?_)
          have M72 := mr_tok M1 N70
          clear N70
          generalize q74 : adv b lim t1 = t73 at M72
          have X75 : RX s w t73 R1 r1 row := rx_t X1 (fun z => by rw [← q74] at z; exact z)
          show av_wp _ cd_141 31 [some (.inr (.inr (.inl (some (77))))), some (.inl (i : Int)), some (.inl (1)), some (.inl v66)] [] h69 _
          refine av_wp_sqF ck_141 1 (pc' := 32) (lv' := [some (.inr (.inr (.inl (some (77))))), some (.inl (i : Int)), some (.inl (1)), some (.inl v66)]) (st' := [.inr (.inr (.inl (some (77))))]) (h' := h69) rfl ?_
          refine wq_gr (p' := 35) (ck_141 _ _ rfl) rfl (congrArg Prod.fst (ly_k (mr_L M72) 77 rfl)) rfl (ly_g (mr_L M72) 77 12 90 rfl) ?_
          refine av_wp_sqF ck_141 8 (pc' := 45) (lv' := [some (.inr (.inr (.inl (some (77))))), some (.inl (i : Int)), some (.inl (1)), some (.inl v66)]) (st' := [.inl (999), .inl (0), .inr (.inr (.inl (some (77)))), .inl (((5) * (i : Int)) + v66), .inr (.inr (.inl (some (90))))]) (h' := h69) rfl ?_
          refine wq_cv (p' := 48) (av_qc (.invokevirtual 232) 134 2 0 8) 4 cd_134 [.inl (999), .inl (0)] (77) 8 [some (.inr (.inr (.inl (some (77))))), some (.inl (0)), some (.inl (999)), none] (ck_141 _ _ rfl) rfl rfl pp_134 rfl rfl rfl (congrArg Prod.fst (ly_k (mr_L M72) 77 rfl)) rfl rfl rfl rfl ?_
          refine ct_134 M72.1 F71 (0) (999) (by omega) (by omega) (fun v76 h79 N80 E77 F81 P78 => ?_)
          have M82 := mr_tok M72 N80
          clear N80
          generalize q84 : nmt b lim t73 (0) (999) = t83 at M82 E77
          have X85 : RX s w t83 R1 r1 row := rx_t X75 (fun z => (nmt_o (by rw [q84]; exact z)).1)
          show av_wp _ cd_141 48 [some (.inr (.inr (.inl (some (77))))), some (.inl (i : Int)), some (.inl (1)), some (.inl v66)] [.inl v76, .inl (((5) * (i : Int)) + v66), .inr (.inr (.inl (some (90))))] h79 _
          refine mr_as (p' := 49) rfl rfl M82 F81 (by omega) (10 + Int.toNat v66) (by omega) (by rw [(vk90 (i := i) (w := Int.toNat v66) (by omega)).1]; omega) (vk90 (i := i) (w := Int.toNat v66) (by omega)).2 (by show (-1 : Int) ≤ v76 ∧ v76 ≤ (999 : Int); omega) (fun h86 M87 F88 => ?_)
          have X89 : RX s w t83 (av_u1 R1 (10 + Int.toNat v66) v76) (av_u1 r1 (row + 10 + Int.toNat v66) (nmv b t73 (0) (999))) row := rx_u X85 (by omega) (by omega) E77
          refine av_wp_sqF ck_141 1 (pc' := 15) (lv' := [some (.inr (.inr (.inl (some (77))))), some (.inl (i : Int)), some (.inl (1)), some (.inl v66)]) (st' := []) (h' := h86) rfl ?_
          exact ih _ _ _ _ _ rfl M87 F88 X89 (fun z => by rw [← q84, ← q74] at z ⊢; exact rsW_m M1.1.2.1 (hm z65) z65 z) (by rw [← he, rsW_g z65, q74, q84, q68])
    exact L54 900 t48 r R h44 _ rfl M47 F46 X50 (fun z => by have z1 := pkv_p M47.1.2.2 z; have z2 := M47.1.2.1.2.1; have z3 := M47.1.2.1.2.2.1; omega) rfl

set_option maxRecDepth 100000 in
set_option maxHeartbeats 4000000 in
theorem ct_142 {g h : av_H} {b : Nat → Int} {lim : Nat} {t : TT} {x17 : Int} {A0 : Nat → Nat → Int} {i : Nat} {R : Nat → Int} (M : MR b lim t x17 A0 i R h) (F : FD g h) (hi : i < 960) {s w : Nat} {r : Nat → Int} {row : Nat} (X : RX s w t R r row) (x : Int) (ex : x = (i : Int)) (y : Int) (w2 : Nat) (ey : y = (w2 : Int)) (hw2 : w2 ≤ 2) (hs : s ≤ w2) (y2 : Int) (qy2 : 0 ≤ y2 ∧ y2 ≤ 1999) {Q : Option av_V → av_H → Prop} (hq : ∀ h' R', MR b lim (rsP b lim row w2 y2 t r).1 x17 A0 i R' h' → FD g h' → RX (w2 + 1) w (rsP b lim row w2 y2 t r).1 R' (rsP b lim row w2 y2 t r).2 row → Q none h') : av_wp none cd_142 0 [some (.inr (.inr (.inl (some (77))))), some (.inl x), some (.inl y), some (.inl y2), none] [] h Q := by
  subst ex
  subst ey
  refine av_wp_sqF ck_142 1 (pc' := 1) (lv' := [some (.inr (.inr (.inl (some (77))))), some (.inl (i : Int)), some (.inl (w2 : Int)), some (.inl y2), none]) (st' := [.inr (.inr (.inl (some (77))))]) (h' := h) rfl ?_
  refine wq_gr (p' := 4) (ck_142 _ _ rfl) rfl (congrArg Prod.fst (ly_k (mr_L M) 77 rfl)) rfl (ly_g (mr_L M) 77 13 91 rfl) ?_
  refine av_wp_sqF ck_142 8 (pc' := 12) (lv' := [some (.inr (.inr (.inl (some (77))))), some (.inl (i : Int)), some (.inl (w2 : Int)), some (.inl y2), none]) (st' := [.inl y2, .inl (0), .inr (.inr (.inl (some (77)))), .inl (((3) * (i : Int)) + (w2 : Int)), .inr (.inr (.inl (some (91))))]) (h' := h) rfl ?_
  refine wq_cv (p' := 15) (av_qc (.invokevirtual 232) 134 2 0 8) 4 cd_134 [.inl y2, .inl (0)] (77) 8 [some (.inr (.inr (.inl (some (77))))), some (.inl (0)), some (.inl y2), none] (ck_142 _ _ rfl) rfl rfl pp_134 rfl rfl rfl (congrArg Prod.fst (ly_k (mr_L M) 77 rfl)) rfl rfl rfl rfl ?_
  refine ct_134 M.1 F (0) y2 (by omega) (by omega) (fun v1 h4 N5 E2 F6 P3 => ?_)
  have M7 := mr_tok M N5
  clear N5
  generalize q9 : nmt b lim t (0) y2 = t8 at M7 E2
  have X10 : RX s w t8 R r row := rx_t X (fun z => (nmt_o (by rw [q9]; exact z)).1)
  show av_wp _ cd_142 15 [some (.inr (.inr (.inl (some (77))))), some (.inl (i : Int)), some (.inl (w2 : Int)), some (.inl y2), none] [.inl v1, .inl (((3) * (i : Int)) + (w2 : Int)), .inr (.inr (.inl (some (91))))] h4 _
  refine mr_as (p' := 16) rfl rfl M7 F6 (by omega) (7 + w2) (by omega) (by rw [(vk91 (i := i) (w := w2) (by omega)).1]; omega) (vk91 (i := i) (w := w2) (by omega)).2 (by show (0 : Int) ≤ v1 ∧ v1 ≤ (1999 : Int); omega) (fun h11 M12 F13 => ?_)
  refine av_wp_sqF ck_142 1 (pc' := 17) (lv' := [some (.inr (.inr (.inl (some (77))))), some (.inl (i : Int)), some (.inl (w2 : Int)), some (.inl y2), none]) (st' := [.inr (.inr (.inl (some (77))))]) (h' := h11) rfl ?_
  refine wq_gr (p' := 20) (ck_142 _ _ rfl) rfl (congrArg Prod.fst (ly_k (mr_L M12) 77 rfl)) rfl (ly_g (mr_L M12) 77 14 92 rfl) ?_
  refine av_wp_sqF ck_142 6 (pc' := 26) (lv' := [some (.inr (.inr (.inl (some (77))))), some (.inl (i : Int)), some (.inl (w2 : Int)), some (.inl y2), none]) (st' := [.inr (.inr (.inl (some (77)))), .inl (((3) * (i : Int)) + (w2 : Int)), .inr (.inr (.inl (some (92))))]) (h' := h11) rfl ?_
  refine wq_gr (p' := 29) (ck_142 _ _ rfl) rfl (congrArg Prod.fst (ly_k (mr_L M12) 77 rfl)) rfl (ly_g (mr_L M12) 77 13 91 rfl) ?_
  refine av_wp_sqF ck_142 5 (pc' := 34) (lv' := [some (.inr (.inr (.inl (some (77))))), some (.inl (i : Int)), some (.inl (w2 : Int)), some (.inl y2), none]) (st' := [.inl (((3) * (i : Int)) + (w2 : Int)), .inr (.inr (.inl (some (91)))), .inl (((3) * (i : Int)) + (w2 : Int)), .inr (.inr (.inl (some (92))))]) (h' := h11) rfl ?_
  refine wq_al (p' := 35) (n := 2880) (ck_142 _ _ rfl) rfl (ly_k (mr_L M12) 91 rfl) (by omega) ((mr_ld M12 (7 + w2) (by omega) (vk91 (i := i) (w := w2) (by omega)).2 (by rw [(vk91 (i := i) (w := w2) (by omega)).1]; omega)).trans (u1_eq)) ?_
  refine mr_as (p' := 36) rfl rfl M12 F13 (by omega) (15 + w2) (by omega) (by rw [(vk92 (i := i) (w := w2) (by omega)).1]; omega) (vk92 (i := i) (w := w2) (by omega)).2 (by show (0 : Int) ≤ v1 ∧ v1 ≤ (1999 : Int); omega) (fun h15 M16 F17 => ?_)
  have X18 : RX w2 w t8 (av_u1 (av_u1 R (7 + w2) v1) (15 + w2) v1) (av_u1 r (row + 7 + w2) (nmv b t (0) y2)) row := rx_lo X10 (by omega) hs E2
  refine av_wp_sqF ck_142 2 (pc' := 40) (lv' := [some (.inr (.inr (.inl (some (77))))), some (.inl (i : Int)), some (.inl (w2 : Int)), some (.inl y2), none]) (st' := [.inr (.inl (555)), .inr (.inr (.inl (some (77))))]) (h' := h15) rfl ?_
  refine wq_cv (p' := 43) (av_qc (.invokevirtual 187) 132 1 0 8) 3 cd_132 [.inr (.inl (555))] (77) 8 [some (.inr (.inr (.inl (some (77))))), some (.inr (.inl (555))), none] (ck_142 _ _ rfl) rfl rfl pp_132 rfl rfl rfl (congrArg Prod.fst (ly_k (mr_L M16) 77 rfl)) rfl rfl rfl rfl ?_
  refine ct_132p M16.1 F17 (555) (by omega) 8 ltw_8 (fun z19 => ?_) (fun z19 => ?_)
  · show av_wp _ cd_142 43 [some (.inr (.inr (.inl (some (77))))), some (.inl (i : Int)), some (.inl (w2 : Int)), some (.inl y2), none] [.inl (1)] h15 _
    refine av_wp_sqF ck_142 1 (pc' := 47) (lv' := [some (.inr (.inr (.inl (some (77))))), some (.inl (i : Int)), some (.inl (w2 : Int)), some (.inl y2), none]) (st' := []) (h' := h15) rfl ?_
    have q20 : (nmv b t (0) y2) = v1 := (E2 (pkv_s z19).1).symm
    rw [q20] at X18
    refine av_wp_sqF ck_142 1 (pc' := 48) (lv' := [some (.inr (.inr (.inl (some (77))))), some (.inl (i : Int)), some (.inl (w2 : Int)), some (.inl y2), none]) (st' := [.inr (.inr (.inl (some (77))))]) (h' := h15) rfl ?_
    refine wq_cv (p' := 51) (av_qc (.invokevirtual 191) 130 0 0 8) 2 cd_130 [] (77) 8 [some (.inr (.inr (.inl (some (77))))), none] (ck_142 _ _ rfl) rfl rfl pp_130 rfl rfl rfl (congrArg Prod.fst (ly_k (mr_L M16) 77 rfl)) rfl rfl rfl rfl ?_
    refine ct_130t M16.1 F17 (fun h21 N22 F23 => ?_)
    have M24 := mr_tok M16 N22
    clear N22
    generalize q26 : adv b lim t8 = t25 at M24
    have X27 : RX w2 w t25 (av_u1 (av_u1 R (7 + w2) v1) (15 + w2) v1) (av_u1 r (row + 7 + w2) v1) row := rx_t X18 (fun z => by rw [← q26] at z; exact z)
    show av_wp _ cd_142 51 [some (.inr (.inr (.inl (some (77))))), some (.inl (i : Int)), some (.inl (w2 : Int)), some (.inl y2), none] [] h21 _
    refine av_wp_sqF ck_142 1 (pc' := 52) (lv' := [some (.inr (.inr (.inl (some (77))))), some (.inl (i : Int)), some (.inl (w2 : Int)), some (.inl y2), none]) (st' := [.inr (.inr (.inl (some (77))))]) (h' := h21) rfl ?_
    refine wq_gr (p' := 55) (ck_142 _ _ rfl) rfl (congrArg Prod.fst (ly_k (mr_L M24) 77 rfl)) rfl (ly_g (mr_L M24) 77 13 91 rfl) ?_
    refine av_wp_sqF ck_142 5 (pc' := 60) (lv' := [some (.inr (.inr (.inl (some (77))))), some (.inl (i : Int)), some (.inl (w2 : Int)), some (.inl y2), none]) (st' := [.inl (((3) * (i : Int)) + (w2 : Int)), .inr (.inr (.inl (some (91))))]) (h' := h21) rfl ?_
    refine wq_al (p' := 61) (n := 2880) (ck_142 _ _ rfl) rfl (ly_k (mr_L M24) 91 rfl) (by omega) ((mr_ld M24 (7 + w2) (by omega) (vk91 (i := i) (w := w2) (by omega)).2 (by rw [(vk91 (i := i) (w := w2) (by omega)).1]; omega)).trans ((u1_ne (by omega)).trans (u1_eq))) ?_
    refine av_wp_sqF ck_142 4 (pc' := 67) (lv' := [some (.inr (.inr (.inl (some (77))))), some (.inl (i : Int)), some (.inl (w2 : Int)), some (.inl y2), some (.inl (v1 + (15)))]) (st' := [.inr (.inr (.inl (some (77))))]) (h' := h21) rfl ?_
    refine wq_gr (p' := 70) (ck_142 _ _ rfl) rfl (congrArg Prod.fst (ly_k (mr_L M24) 77 rfl)) rfl (ly_g (mr_L M24) 77 14 92 rfl) ?_
    refine av_wp_sqF ck_142 7 (pc' := 77) (lv' := [some (.inr (.inr (.inl (some (77))))), some (.inl (i : Int)), some (.inl (w2 : Int)), some (.inl y2), some (.inl (v1 + (15)))]) (st' := [.inr (.inr (.inl (some (77)))), .inr (.inr (.inl (some (77)))), .inl (((3) * (i : Int)) + (w2 : Int)), .inr (.inr (.inl (some (92))))]) (h' := h21) rfl ?_
    refine wq_gr (p' := 80) (ck_142 _ _ rfl) rfl (congrArg Prod.fst (ly_k (mr_L M24) 77 rfl)) rfl (ly_g (mr_L M24) 77 13 91 rfl) ?_
    refine av_wp_sqF ck_142 5 (pc' := 85) (lv' := [some (.inr (.inr (.inl (some (77))))), some (.inl (i : Int)), some (.inl (w2 : Int)), some (.inl y2), some (.inl (v1 + (15)))]) (st' := [.inl (((3) * (i : Int)) + (w2 : Int)), .inr (.inr (.inl (some (91)))), .inr (.inr (.inl (some (77)))), .inl (((3) * (i : Int)) + (w2 : Int)), .inr (.inr (.inl (some (92))))]) (h' := h21) rfl ?_
    refine wq_al (p' := 86) (n := 2880) (ck_142 _ _ rfl) rfl (ly_k (mr_L M24) 91 rfl) (by omega) ((mr_ld M24 (7 + w2) (by omega) (vk91 (i := i) (w := w2) (by omega)).2 (by rw [(vk91 (i := i) (w := w2) (by omega)).1]; omega)).trans ((u1_ne (by omega)).trans (u1_eq))) ?_
    refine av_wp_sqF ck_142 2 (pc' := 89) (lv' := [some (.inr (.inr (.inl (some (77))))), some (.inl (i : Int)), some (.inl (w2 : Int)), some (.inl y2), some (.inl (v1 + (15)))]) (st' := [.inl y2, .inl (v1 + (15)), .inl v1, .inr (.inr (.inl (some (77)))), .inl (((3) * (i : Int)) + (w2 : Int)), .inr (.inr (.inl (some (92))))]) (h' := h21) rfl ?_
    refine wq_k2 (p' := 92) (ck_142 _ _ rfl) rfl ⟨by omega, by omega⟩ ⟨by omega, by omega⟩ (fun c28 => ?_) (fun c29 => ?_)
    · have c28 : y2 ≤ (v1 + (15)) := c28
      refine av_wp_sqF ck_142 1 (pc' := 98) (lv' := [some (.inr (.inr (.inl (some (77))))), some (.inl (i : Int)), some (.inl (w2 : Int)), some (.inl y2), some (.inl (v1 + (15)))]) (st' := [.inl y2, .inl v1, .inr (.inr (.inl (some (77)))), .inl (((3) * (i : Int)) + (w2 : Int)), .inr (.inr (.inl (some (92))))]) (h' := h21) rfl ?_
      have q30 : (mn2 y2 (v1 + 15)) = y2 := by unfold mn2; first | rw [if_pos (by omega)] | rw [if_neg (by omega)]
      refine wq_cv (p' := 101) (av_qc (.invokevirtual 232) 134 2 0 8) 4 cd_134 [.inl y2, .inl v1] (77) 8 [some (.inr (.inr (.inl (some (77))))), some (.inl v1), some (.inl y2), none] (ck_142 _ _ rfl) rfl rfl pp_134 rfl rfl rfl (congrArg Prod.fst (ly_k (mr_L M24) 77 rfl)) rfl rfl rfl rfl ?_
      refine ct_134 M24.1 F23 v1 y2 (by omega) (by omega) (fun v31 h34 N35 E32 F36 P33 => ?_)
      have M37 := mr_tok M24 N35
      clear N35
      generalize q39 : nmt b lim t25 v1 y2 = t38 at M37 E32
      have X40 : RX w2 w t38 (av_u1 (av_u1 R (7 + w2) v1) (15 + w2) v1) (av_u1 r (row + 7 + w2) v1) row := rx_t X27 (fun z => (nmt_o (by rw [q39]; exact z)).1)
      show av_wp _ cd_142 101 [some (.inr (.inr (.inl (some (77))))), some (.inl (i : Int)), some (.inl (w2 : Int)), some (.inl y2), some (.inl (v1 + (15)))] [.inl v31, .inl (((3) * (i : Int)) + (w2 : Int)), .inr (.inr (.inl (some (92))))] h34 _
      refine mr_as (p' := 102) rfl rfl M37 F36 (by omega) (15 + w2) (by omega) (by rw [(vk92 (i := i) (w := w2) (by omega)).1]; omega) (vk92 (i := i) (w := w2) (by omega)).2 (by show (0 : Int) ≤ v31 ∧ v31 ≤ (1999 : Int); omega) (fun h41 M42 F43 => ?_)
      have X44 : RX (w2 + 1) w t38 (av_u1 (av_u1 (av_u1 R (7 + w2) v1) (15 + w2) v1) (15 + w2) v31) (av_u1 (av_u1 r (row + 7 + w2) v1) (row + 15 + w2) ((nmv b t25 v1 y2) - v1 + 1)) row := rx_hi X40 (by omega) ((u1_ne (by omega)).trans u1_eq) (fun z => by have z1 := E32 z; have z2 := nmt_o (b := b) (lim := lim) (by rw [q39]; exact z); omega) (fun _ => rfl)
      refine av_wp_ret (v := none) (ck_142 _ _ rfl) rfl rfl ?_
      exact hq h41 (av_u1 (av_u1 (av_u1 R (7 + w2) v1) (15 + w2) v1) (15 + w2) v31) (by simp only [rsP, rsP1, q9, q20, q26, q30, q39, if_neg z19]; exact M42) F43 (by simp only [rsP, rsP1, q9, q20, q26, q30, q39, if_neg z19]; exact rx_s X44 (by omega))
    · have c29 : (v1 + (15)) < y2 := c29
      refine av_wp_sqF ck_142 2 (pc' := 98) (lv' := [some (.inr (.inr (.inl (some (77))))), some (.inl (i : Int)), some (.inl (w2 : Int)), some (.inl y2), some (.inl (v1 + (15)))]) (st' := [.inl (v1 + (15)), .inl v1, .inr (.inr (.inl (some (77)))), .inl (((3) * (i : Int)) + (w2 : Int)), .inr (.inr (.inl (some (92))))]) (h' := h21) rfl ?_
      have q45 : (mn2 y2 (v1 + 15)) = (v1 + (15)) := by unfold mn2; first | rw [if_pos (by omega)] | rw [if_neg (by omega)]
      refine wq_cv (p' := 101) (av_qc (.invokevirtual 232) 134 2 0 8) 4 cd_134 [.inl (v1 + (15)), .inl v1] (77) 8 [some (.inr (.inr (.inl (some (77))))), some (.inl v1), some (.inl (v1 + (15))), none] (ck_142 _ _ rfl) rfl rfl pp_134 rfl rfl rfl (congrArg Prod.fst (ly_k (mr_L M24) 77 rfl)) rfl rfl rfl rfl ?_
      refine ct_134 M24.1 F23 v1 (v1 + (15)) (by omega) (by omega) (fun v46 h49 N50 E47 F51 P48 => ?_)
      have M52 := mr_tok M24 N50
      clear N50
      generalize q54 : nmt b lim t25 v1 (v1 + (15)) = t53 at M52 E47
      have X55 : RX w2 w t53 (av_u1 (av_u1 R (7 + w2) v1) (15 + w2) v1) (av_u1 r (row + 7 + w2) v1) row := rx_t X27 (fun z => (nmt_o (by rw [q54]; exact z)).1)
      show av_wp _ cd_142 101 [some (.inr (.inr (.inl (some (77))))), some (.inl (i : Int)), some (.inl (w2 : Int)), some (.inl y2), some (.inl (v1 + (15)))] [.inl v46, .inl (((3) * (i : Int)) + (w2 : Int)), .inr (.inr (.inl (some (92))))] h49 _
      refine mr_as (p' := 102) rfl rfl M52 F51 (by omega) (15 + w2) (by omega) (by rw [(vk92 (i := i) (w := w2) (by omega)).1]; omega) (vk92 (i := i) (w := w2) (by omega)).2 (by show (0 : Int) ≤ v46 ∧ v46 ≤ (1999 : Int); omega) (fun h56 M57 F58 => ?_)
      have X59 : RX (w2 + 1) w t53 (av_u1 (av_u1 (av_u1 R (7 + w2) v1) (15 + w2) v1) (15 + w2) v46) (av_u1 (av_u1 r (row + 7 + w2) v1) (row + 15 + w2) ((nmv b t25 v1 (v1 + (15))) - v1 + 1)) row := rx_hi X55 (by omega) ((u1_ne (by omega)).trans u1_eq) (fun z => by have z1 := E47 z; have z2 := nmt_o (b := b) (lim := lim) (by rw [q54]; exact z); omega) (fun _ => rfl)
      refine av_wp_ret (v := none) (ck_142 _ _ rfl) rfl rfl ?_
      exact hq h56 (av_u1 (av_u1 (av_u1 R (7 + w2) v1) (15 + w2) v1) (15 + w2) v46) (by simp only [rsP, rsP1, q9, q20, q26, q45, q54, if_neg z19]; exact M57) F58 (by simp only [rsP, rsP1, q9, q20, q26, q45, q54, if_neg z19]; exact rx_s X59 (by omega))
  · show av_wp _ cd_142 43 [some (.inr (.inr (.inl (some (77))))), some (.inl (i : Int)), some (.inl (w2 : Int)), some (.inl y2), none] [.inl (0)] h15 _
    refine av_wp_sqF ck_142 1 (pc' := 46) (lv' := [some (.inr (.inr (.inl (some (77))))), some (.inl (i : Int)), some (.inl (w2 : Int)), some (.inl y2), none]) (st' := []) (h' := h15) rfl ?_
    refine av_wp_ret (v := none) (ck_142 _ _ rfl) rfl rfl ?_
    exact hq h15 (av_u1 (av_u1 R (7 + w2) v1) (15 + w2) v1) (by simp only [rsP, rsP1, q9, if_pos z19]; exact M16) F17 (by simp only [rsP, rsP1, q9, if_pos z19]; exact rx_s X18 (by omega))

set_option maxRecDepth 100000 in
set_option maxHeartbeats 4000000 in
theorem ct_143 {g h : av_H} {b : Nat → Int} {lim : Nat} {t : TT} {x17 : Int} {A0 : Nat → Nat → Int} {i : Nat} {R : Nat → Int} (M : MR b lim t x17 A0 i R h) (F : FD g h) (hi : i < 960) {s w : Nat} {r : Nat → Int} {row : Nat} (X : RX s w t R r row) (x : Int) (ex : x = (i : Int)) (hs : s = 0) {Q : Option av_V → av_H → Prop} (hq : ∀ h' R', MR b lim (rsM b lim row t r).1 x17 A0 i R' h' → FD g h' → RX 3 1 (rsM b lim row t r).1 R' (rsM b lim row t r).2 row → Q none h') : av_wp none cd_143 0 [some (.inr (.inr (.inl (some (77))))), some (.inl x), none] [] h Q := by
  subst ex
  subst hs
  refine av_wp_sqF ck_143 1 (pc' := 1) (lv' := [some (.inr (.inr (.inl (some (77))))), some (.inl (i : Int)), none]) (st' := [.inr (.inr (.inl (some (77))))]) (h' := h) rfl ?_
  refine wq_cv (p' := 4) (av_qc (.invokevirtual 238) 140 0 0 8) 1 cd_140 [] (77) 8 [some (.inr (.inr (.inl (some (77)))))] (ck_143 _ _ rfl) rfl rfl pp_140 rfl rfl rfl (congrArg Prod.fst (ly_k (mr_L M) 77 rfl)) rfl rfl rfl rfl ?_
  refine ct_140 M.1 F (fun v1 p2 => ?_)
  have q3 : pkv b t 6 = v1 := by omega
  show av_wp _ cd_143 4 [some (.inr (.inr (.inl (some (77))))), some (.inl (i : Int)), none] [.inl v1] h _
  refine av_wp_sqF ck_143 2 (pc' := 6) (lv' := [some (.inr (.inr (.inl (some (77))))), some (.inl (i : Int)), some (.inl v1)]) (st' := [.inl v1]) (h' := h) rfl ?_
  refine wq_k1 (p' := 9) (ck_143 _ _ rfl) rfl ⟨by omega, by omega⟩ (fun c4 => ?_) (fun c5 => ?_)
  · have c4 : (0) ≤ v1 := c4
    refine av_wp_sqF ck_143 1 (pc' := 15) (lv' := [some (.inr (.inr (.inl (some (77))))), some (.inl (i : Int)), some (.inl v1)]) (st' := [.inr (.inr (.inl (some (77))))]) (h' := h) rfl ?_
    refine wq_cv (p' := 18) (av_qc (.invokevirtual 191) 130 0 0 8) 2 cd_130 [] (77) 8 [some (.inr (.inr (.inl (some (77))))), none] (ck_143 _ _ rfl) rfl rfl pp_130 rfl rfl rfl (congrArg Prod.fst (ly_k (mr_L M) 77 rfl)) rfl rfl rfl rfl ?_
    refine ct_130t M.1 F (fun h6 N7 F8 => ?_)
    have M9 := mr_tok M N7
    clear N7
    generalize q11 : adv b lim t = t10 at M9
    have X12 : RX 0 w t10 R r row := rx_t X (fun z => by rw [← q11] at z; exact z)
    show av_wp _ cd_143 18 [some (.inr (.inr (.inl (some (77))))), some (.inl (i : Int)), some (.inl v1)] [] h6 _
    have q13 : cho b lim t 6 = t10 := by rw [← q11]; exact if_neg (by omega)
    refine av_wp_sqF ck_143 1 (pc' := 19) (lv' := [some (.inr (.inr (.inl (some (77))))), some (.inl (i : Int)), some (.inl v1)]) (st' := [.inr (.inr (.inl (some (77))))]) (h' := h6) rfl ?_
    refine wq_gr (p' := 22) (ck_143 _ _ rfl) rfl (congrArg Prod.fst (ly_k (mr_L M9) 77 rfl)) rfl (ly_g (mr_L M9) 77 8 86 rfl) ?_
    refine av_wp_sqF ck_143 2 (pc' := 24) (lv' := [some (.inr (.inr (.inl (some (77))))), some (.inl (i : Int)), some (.inl v1)]) (st' := [.inl v1, .inl (i : Int), .inr (.inr (.inl (some (86))))]) (h' := h6) rfl ?_
    refine mr_as (p' := 25) rfl rfl M9 F8 (by omega) 4 (by decide) (by show _ = (((1 * i + 0 : Nat)) : Int); omega) rfl (by show (0 : Int) ≤ v1 ∧ v1 ≤ (3 : Int); omega) (fun h14 M15 F16 => ?_)
    have X17 : RX 0 1 t10 (av_u1 R 4 v1) (av_u1 r (row + 4) v1) row := rx_way X12 (fun _ => rfl)
    refine av_wp_sqF ck_143 2 (pc' := 29) (lv' := [some (.inr (.inr (.inl (some (77))))), some (.inl (i : Int)), some (.inl v1)]) (st' := [.inr (.inl (47)), .inr (.inr (.inl (some (77))))]) (h' := h14) rfl ?_
    refine wq_cv (p' := 32) (av_qc (.invokevirtual 243) 133 1 0 8) 3 cd_133 [.inr (.inl (47))] (77) 8 [some (.inr (.inr (.inl (some (77))))), some (.inr (.inl (47))), none] (ck_143 _ _ rfl) rfl rfl pp_133 rfl rfl rfl (congrArg Prod.fst (ly_k (mr_L M15) 77 rfl)) rfl rfl rfl rfl ?_
    refine ct_133p M15.1 F16 (47) (by omega) 7 ltw_7 (fun h18 N19 F20 => ?_)
    have M21 := mr_tok M15 N19
    clear N19
    generalize q23 : cho b lim t10 7 = t22 at M21
    have X24 : RX 0 1 t22 (av_u1 R 4 v1) (av_u1 r (row + 4) v1) row := rx_t X17 (fun z => (cho_o (n := 7) (by rw [q23]; exact z)).1)
    show av_wp _ cd_143 32 [some (.inr (.inr (.inl (some (77))))), some (.inl (i : Int)), some (.inl v1)] [] h18 _
    refine av_wp_sqF ck_143 4 (pc' := 38) (lv' := [some (.inr (.inr (.inl (some (77))))), some (.inl (i : Int)), some (.inl v1)]) (st' := [.inl (1999), .inl (0), .inl (i : Int), .inr (.inr (.inl (some (77))))]) (h' := h18) rfl ?_
    refine wq_cv (p' := 41) (av_qc (.invokevirtual 247) 142 3 0 8) 5 cd_142 [.inl (1999), .inl (0), .inl (i : Int)] (77) 8 [some (.inr (.inr (.inl (some (77))))), some (.inl (i : Int)), some (.inl (0)), some (.inl (1999)), none] (ck_143 _ _ rfl) rfl rfl pp_142 rfl rfl rfl (congrArg Prod.fst (ly_k (mr_L M21) 77 rfl)) rfl rfl rfl rfl ?_
    refine ct_142 M21 F20 (by omega) X24 ((i : Int)) (by omega) ((0)) 0 (by omega) (by omega) (by omega) ((1999)) (by omega) (fun h25 R26 M27 F28 X29 => ?_)
    obtain ⟨⟨t30, r31⟩, q32⟩ : ∃ x, rsP b lim row 0 (1999) t22 (av_u1 r (row + 4) v1) = x := ⟨_, rfl⟩
    rw [q32] at M27 X29
    have M27 : MR b lim t30 x17 A0 i R26 h25 := M27
    have X29 : RX 1 1 t30 R26 r31 row := X29
    show av_wp _ cd_143 41 [some (.inr (.inr (.inl (some (77))))), some (.inl (i : Int)), some (.inl v1)] [] h25 _
    refine av_wp_sqF ck_143 2 (pc' := 43) (lv' := [some (.inr (.inr (.inl (some (77))))), some (.inl (i : Int)), some (.inl v1)]) (st' := [.inl (1), .inl v1]) (h' := h25) rfl ?_
    refine wq_k2 (p' := 46) (ck_143 _ _ rfl) rfl ⟨by omega, by omega⟩ ⟨by omega, by omega⟩ (fun c33 => ?_) (fun c34 => ?_)
    · have c33 : v1 ≤ (1) := c33
      refine av_wp_sqF ck_143 2 (pc' := 51) (lv' := [some (.inr (.inr (.inl (some (77))))), some (.inl (i : Int)), some (.inl v1)]) (st' := [.inr (.inl (664272)), .inr (.inr (.inl (some (77))))]) (h' := h25) rfl ?_
      refine wq_cv (p' := 54) (av_qc (.invokevirtual 243) 133 1 0 8) 3 cd_133 [.inr (.inl (664272))] (77) 8 [some (.inr (.inr (.inl (some (77))))), some (.inr (.inl (664272))), none] (ck_143 _ _ rfl) rfl rfl pp_133 rfl rfl rfl (congrArg Prod.fst (ly_k (mr_L M27) 77 rfl)) rfl rfl rfl rfl ?_
      refine ct_133p M27.1 F28 (664272) (by omega) 9 ltw_9 (fun h35 N36 F37 => ?_)
      have M38 := mr_tok M27 N36
      clear N36
      generalize q40 : cho b lim t30 9 = t39 at M38
      have X41 : RX 1 1 t39 R26 r31 row := rx_t X29 (fun z => (cho_o (n := 9) (by rw [q40]; exact z)).1)
      show av_wp _ cd_143 54 [some (.inr (.inr (.inl (some (77))))), some (.inl (i : Int)), some (.inl v1)] [] h35 _
      refine av_wp_sqF ck_143 4 (pc' := 60) (lv' := [some (.inr (.inr (.inl (some (77))))), some (.inl (i : Int)), some (.inl v1)]) (st' := [.inl (999), .inl (1), .inl (i : Int), .inr (.inr (.inl (some (77))))]) (h' := h35) rfl ?_
      refine wq_cv (p' := 63) (av_qc (.invokevirtual 247) 142 3 0 8) 5 cd_142 [.inl (999), .inl (1), .inl (i : Int)] (77) 8 [some (.inr (.inr (.inl (some (77))))), some (.inl (i : Int)), some (.inl (1)), some (.inl (999)), none] (ck_143 _ _ rfl) rfl rfl pp_142 rfl rfl rfl (congrArg Prod.fst (ly_k (mr_L M38) 77 rfl)) rfl rfl rfl rfl ?_
      refine ct_142 M38 F37 (by omega) X41 ((i : Int)) (by omega) ((1)) 1 (by omega) (by omega) (by omega) ((999)) (by omega) (fun h42 R43 M44 F45 X46 => ?_)
      obtain ⟨⟨t47, r48⟩, q49⟩ : ∃ x, rsP b lim row 1 (999) t39 r31 = x := ⟨_, rfl⟩
      rw [q49] at M44 X46
      have M44 : MR b lim t47 x17 A0 i R43 h42 := M44
      have X46 : RX 2 1 t47 R43 r48 row := X46
      show av_wp _ cd_143 63 [some (.inr (.inr (.inl (some (77))))), some (.inl (i : Int)), some (.inl v1)] [] h42 _
      refine av_wp_sqF ck_143 2 (pc' := 67) (lv' := [some (.inr (.inr (.inl (some (77))))), some (.inl (i : Int)), some (.inl v1)]) (st' := [.inr (.inl (357970)), .inr (.inr (.inl (some (77))))]) (h' := h42) rfl ?_
      refine wq_cv (p' := 70) (av_qc (.invokevirtual 187) 132 1 0 8) 3 cd_132 [.inr (.inl (357970))] (77) 8 [some (.inr (.inr (.inl (some (77))))), some (.inr (.inl (357970))), none] (ck_143 _ _ rfl) rfl rfl pp_132 rfl rfl rfl (congrArg Prod.fst (ly_k (mr_L M44) 77 rfl)) rfl rfl rfl rfl ?_
      refine ct_132p M44.1 F45 (357970) (by omega) 10 ltw_10 (fun z50 => ?_) (fun z50 => ?_)
      · show av_wp _ cd_143 70 [some (.inr (.inr (.inl (some (77))))), some (.inl (i : Int)), some (.inl v1)] [.inl (1)] h42 _
        refine av_wp_sqF ck_143 2 (pc' := 74) (lv' := [some (.inr (.inr (.inl (some (77))))), some (.inl (i : Int)), some (.inl v1)]) (st' := [.inr (.inr (.inl (some (77))))]) (h' := h42) rfl ?_
        refine wq_cv (p' := 77) (av_qc (.invokevirtual 191) 130 0 0 8) 2 cd_130 [] (77) 8 [some (.inr (.inr (.inl (some (77))))), none] (ck_143 _ _ rfl) rfl rfl pp_130 rfl rfl rfl (congrArg Prod.fst (ly_k (mr_L M44) 77 rfl)) rfl rfl rfl rfl ?_
        refine ct_130t M44.1 F45 (fun h51 N52 F53 => ?_)
        have M54 := mr_tok M44 N52
        clear N52
        generalize q56 : adv b lim t47 = t55 at M54
        have X57 : RX 2 1 t55 R43 r48 row := rx_t X46 (fun z => by rw [← q56] at z; exact z)
        show av_wp _ cd_143 77 [some (.inr (.inr (.inl (some (77))))), some (.inl (i : Int)), some (.inl v1)] [] h51 _
        refine av_wp_sqF ck_143 4 (pc' := 83) (lv' := [some (.inr (.inr (.inl (some (77))))), some (.inl (i : Int)), some (.inl v1)]) (st' := [.inl (999), .inl (2), .inl (i : Int), .inr (.inr (.inl (some (77))))]) (h' := h51) rfl ?_
        refine wq_cv (p' := 86) (av_qc (.invokevirtual 247) 142 3 0 8) 5 cd_142 [.inl (999), .inl (2), .inl (i : Int)] (77) 8 [some (.inr (.inr (.inl (some (77))))), some (.inl (i : Int)), some (.inl (2)), some (.inl (999)), none] (ck_143 _ _ rfl) rfl rfl pp_142 rfl rfl rfl (congrArg Prod.fst (ly_k (mr_L M54) 77 rfl)) rfl rfl rfl rfl ?_
        refine ct_142 M54 F53 (by omega) X57 ((i : Int)) (by omega) ((2)) 2 (by omega) (by omega) (by omega) ((999)) (by omega) (fun h58 R59 M60 F61 X62 => ?_)
        obtain ⟨⟨t63, r64⟩, q65⟩ : ∃ x, rsP b lim row 2 (999) t55 r48 = x := ⟨_, rfl⟩
        rw [q65] at M60 X62
        have M60 : MR b lim t63 x17 A0 i R59 h58 := M60
        have X62 : RX 3 1 t63 R59 r64 row := X62
        show av_wp _ cd_143 86 [some (.inr (.inr (.inl (some (77))))), some (.inl (i : Int)), some (.inl v1)] [] h58 _
        refine av_wp_sqF ck_143 2 (pc' := 90) (lv' := [some (.inr (.inr (.inl (some (77))))), some (.inl (i : Int)), some (.inl v1)]) (st' := [.inr (.inl (247664)), .inr (.inr (.inl (some (77))))]) (h' := h58) rfl ?_
        refine wq_cv (p' := 93) (av_qc (.invokevirtual 187) 132 1 0 8) 3 cd_132 [.inr (.inl (247664))] (77) 8 [some (.inr (.inr (.inl (some (77))))), some (.inr (.inl (247664))), none] (ck_143 _ _ rfl) rfl rfl pp_132 rfl rfl rfl (congrArg Prod.fst (ly_k (mr_L M60) 77 rfl)) rfl rfl rfl rfl ?_
        refine ct_132p M60.1 F61 (247664) (by omega) 11 ltw_11 (fun z66 => ?_) (fun z66 => ?_)
        · show av_wp _ cd_143 93 [some (.inr (.inr (.inl (some (77))))), some (.inl (i : Int)), some (.inl v1)] [.inl (1)] h58 _
          refine av_wp_sqF ck_143 2 (pc' := 97) (lv' := [some (.inr (.inr (.inl (some (77))))), some (.inl (i : Int)), some (.inl v1)]) (st' := [.inr (.inr (.inl (some (77))))]) (h' := h58) rfl ?_
          refine wq_cv (p' := 100) (av_qc (.invokevirtual 191) 130 0 0 8) 2 cd_130 [] (77) 8 [some (.inr (.inr (.inl (some (77))))), none] (ck_143 _ _ rfl) rfl rfl pp_130 rfl rfl rfl (congrArg Prod.fst (ly_k (mr_L M60) 77 rfl)) rfl rfl rfl rfl ?_
          refine ct_130t M60.1 F61 (fun h67 N68 F69 => ?_)
          have M70 := mr_tok M60 N68
          clear N68
          generalize q72 : adv b lim t63 = t71 at M70
          have X73 : RX 3 1 t71 R59 r64 row := rx_t X62 (fun z => by rw [← q72] at z; exact z)
          show av_wp _ cd_143 100 [some (.inr (.inr (.inl (some (77))))), some (.inl (i : Int)), some (.inl v1)] [] h67 _
          refine av_wp_sqF ck_143 1 (pc' := 101) (lv' := [some (.inr (.inr (.inl (some (77))))), some (.inl (i : Int)), some (.inl v1)]) (st' := [.inr (.inr (.inl (some (77))))]) (h' := h67) rfl ?_
          refine wq_gr (p' := 104) (ck_143 _ _ rfl) rfl (congrArg Prod.fst (ly_k (mr_L M70) 77 rfl)) rfl (ly_g (mr_L M70) 77 11 89 rfl) ?_
          refine av_wp_sqF ck_143 2 (pc' := 106) (lv' := [some (.inr (.inr (.inl (some (77))))), some (.inl (i : Int)), some (.inl v1)]) (st' := [.inl (1), .inl (i : Int), .inr (.inr (.inl (some (89))))]) (h' := h67) rfl ?_
          refine mr_as (p' := 107) rfl rfl M70 F69 (by omega) 18 (by decide) (by show _ = (((1 * i + 0 : Nat)) : Int); omega) rfl (by show (0 : Int) ≤ (1) ∧ (1) ≤ (1 : Int); omega) (fun h74 M75 F76 => ?_)
          have X77 : RX 3 1 t71 (av_u1 R59 18 (1)) (av_u1 r64 (row + 18) 2) row := rx_ls X73
          refine av_wp_ret (v := none) (ck_143 _ _ rfl) rfl rfl ?_
          exact hq h74 (av_u1 R59 18 (1)) (by simp only [rsM, rsM0, rsM1, rsM2, rsM3, q3, q11, q13, q23, q32, q40, q49, q56, q65, q72, if_neg z50, if_neg z66, if_pos (show v1 ≤ 1 by omega)]; exact M75) F76 (by simp only [rsM, rsM0, rsM1, rsM2, rsM3, q3, q11, q13, q23, q32, q40, q49, q56, q65, q72, if_neg z50, if_neg z66, if_pos (show v1 ≤ 1 by omega)]; exact rx_s X77 (by omega))
        · show av_wp _ cd_143 93 [some (.inr (.inr (.inl (some (77))))), some (.inl (i : Int)), some (.inl v1)] [.inl (0)] h58 _
          refine av_wp_sqF ck_143 1 (pc' := 107) (lv' := [some (.inr (.inr (.inl (some (77))))), some (.inl (i : Int)), some (.inl v1)]) (st' := []) (h' := h58) rfl ?_
          refine av_wp_ret (v := none) (ck_143 _ _ rfl) rfl rfl ?_
          exact hq h58 R59 (by simp only [rsM, rsM0, rsM1, rsM2, rsM3, q3, q11, q13, q23, q32, q40, q49, q56, q65, if_neg z50, if_pos z66, if_pos (show v1 ≤ 1 by omega)]; exact M60) F61 (by simp only [rsM, rsM0, rsM1, rsM2, rsM3, q3, q11, q13, q23, q32, q40, q49, q56, q65, if_neg z50, if_pos z66, if_pos (show v1 ≤ 1 by omega)]; exact rx_s X62 (by omega))
      · show av_wp _ cd_143 70 [some (.inr (.inr (.inl (some (77))))), some (.inl (i : Int)), some (.inl v1)] [.inl (0)] h42 _
        refine av_wp_sqF ck_143 3 (pc' := 90) (lv' := [some (.inr (.inr (.inl (some (77))))), some (.inl (i : Int)), some (.inl v1)]) (st' := [.inr (.inl (247664)), .inr (.inr (.inl (some (77))))]) (h' := h42) rfl ?_
        refine wq_cv (p' := 93) (av_qc (.invokevirtual 187) 132 1 0 8) 3 cd_132 [.inr (.inl (247664))] (77) 8 [some (.inr (.inr (.inl (some (77))))), some (.inr (.inl (247664))), none] (ck_143 _ _ rfl) rfl rfl pp_132 rfl rfl rfl (congrArg Prod.fst (ly_k (mr_L M44) 77 rfl)) rfl rfl rfl rfl ?_
        refine ct_132p M44.1 F45 (247664) (by omega) 11 ltw_11 (fun z78 => ?_) (fun z78 => ?_)
        · show av_wp _ cd_143 93 [some (.inr (.inr (.inl (some (77))))), some (.inl (i : Int)), some (.inl v1)] [.inl (1)] h42 _
          refine av_wp_sqF ck_143 2 (pc' := 97) (lv' := [some (.inr (.inr (.inl (some (77))))), some (.inl (i : Int)), some (.inl v1)]) (st' := [.inr (.inr (.inl (some (77))))]) (h' := h42) rfl ?_
          refine wq_cv (p' := 100) (av_qc (.invokevirtual 191) 130 0 0 8) 2 cd_130 [] (77) 8 [some (.inr (.inr (.inl (some (77))))), none] (ck_143 _ _ rfl) rfl rfl pp_130 rfl rfl rfl (congrArg Prod.fst (ly_k (mr_L M44) 77 rfl)) rfl rfl rfl rfl ?_
          refine ct_130t M44.1 F45 (fun h79 N80 F81 => ?_)
          have M82 := mr_tok M44 N80
          clear N80
          generalize q84 : adv b lim t47 = t83 at M82
          have X85 : RX 2 1 t83 R43 r48 row := rx_t X46 (fun z => by rw [← q84] at z; exact z)
          show av_wp _ cd_143 100 [some (.inr (.inr (.inl (some (77))))), some (.inl (i : Int)), some (.inl v1)] [] h79 _
          refine av_wp_sqF ck_143 1 (pc' := 101) (lv' := [some (.inr (.inr (.inl (some (77))))), some (.inl (i : Int)), some (.inl v1)]) (st' := [.inr (.inr (.inl (some (77))))]) (h' := h79) rfl ?_
          refine wq_gr (p' := 104) (ck_143 _ _ rfl) rfl (congrArg Prod.fst (ly_k (mr_L M82) 77 rfl)) rfl (ly_g (mr_L M82) 77 11 89 rfl) ?_
          refine av_wp_sqF ck_143 2 (pc' := 106) (lv' := [some (.inr (.inr (.inl (some (77))))), some (.inl (i : Int)), some (.inl v1)]) (st' := [.inl (1), .inl (i : Int), .inr (.inr (.inl (some (89))))]) (h' := h79) rfl ?_
          refine mr_as (p' := 107) rfl rfl M82 F81 (by omega) 18 (by decide) (by show _ = (((1 * i + 0 : Nat)) : Int); omega) rfl (by show (0 : Int) ≤ (1) ∧ (1) ≤ (1 : Int); omega) (fun h86 M87 F88 => ?_)
          have X89 : RX 2 1 t83 (av_u1 R43 18 (1)) (av_u1 r48 (row + 18) 2) row := rx_ls X85
          refine av_wp_ret (v := none) (ck_143 _ _ rfl) rfl rfl ?_
          exact hq h86 (av_u1 R43 18 (1)) (by simp only [rsM, rsM0, rsM1, rsM2, rsM3, q3, q11, q13, q23, q32, q40, q49, q84, if_pos z50, if_neg z78, if_pos (show v1 ≤ 1 by omega)]; exact M87) F88 (by simp only [rsM, rsM0, rsM1, rsM2, rsM3, q3, q11, q13, q23, q32, q40, q49, q84, if_pos z50, if_neg z78, if_pos (show v1 ≤ 1 by omega)]; exact rx_s X89 (by omega))
        · show av_wp _ cd_143 93 [some (.inr (.inr (.inl (some (77))))), some (.inl (i : Int)), some (.inl v1)] [.inl (0)] h42 _
          refine av_wp_sqF ck_143 1 (pc' := 107) (lv' := [some (.inr (.inr (.inl (some (77))))), some (.inl (i : Int)), some (.inl v1)]) (st' := []) (h' := h42) rfl ?_
          refine av_wp_ret (v := none) (ck_143 _ _ rfl) rfl rfl ?_
          exact hq h42 R43 (by simp only [rsM, rsM0, rsM1, rsM2, rsM3, q3, q11, q13, q23, q32, q40, q49, if_pos z50, if_pos z78, if_pos (show v1 ≤ 1 by omega)]; exact M44) F45 (by simp only [rsM, rsM0, rsM1, rsM2, rsM3, q3, q11, q13, q23, q32, q40, q49, if_pos z50, if_pos z78, if_pos (show v1 ≤ 1 by omega)]; exact rx_s X46 (by omega))
    · have c34 : (1) < v1 := c34
      refine av_wp_ret (v := none) (ck_143 _ _ rfl) rfl rfl ?_
      exact hq h25 R26 (by simp only [rsM, rsM0, rsM1, rsM2, rsM3, q3, q11, q13, q23, q32, if_neg (show ¬ v1 ≤ 1 by omega)]; exact M27) F28 (by simp only [rsM, rsM0, rsM1, rsM2, rsM3, q3, q11, q13, q23, q32, if_neg (show ¬ v1 ≤ 1 by omega)]; exact rx_s X29 (by omega))
  · have c5 : v1 < (0) := c5
    refine av_wp_sqF ck_143 1 (pc' := 10) (lv' := [some (.inr (.inr (.inl (some (77))))), some (.inl (i : Int)), some (.inl v1)]) (st' := [.inr (.inr (.inl (some (77))))]) (h' := h) rfl ?_
    refine wq_cv (p' := 13) (av_qc (.invokevirtual 194) 131 0 0 8) 1 cd_131 [] (77) 8 [some (.inr (.inr (.inl (some (77)))))] (ck_143 _ _ rfl) rfl rfl pp_131 rfl rfl rfl (congrArg Prod.fst (ly_k (mr_L M) 77 rfl)) rfl rfl rfl rfl ?_
    refine ct_131 M.1 F (fun h90 N91 F92 => ?_)
    have M93 := mr_tok M N91
    clear N91
    generalize q95 : fal t = t94 at M93
    have X96 : RX 0 w t94 R r row := rx_t X (fun z => by rw [← q95] at z; exact absurd z fal_ne)
    show av_wp _ cd_143 13 [some (.inr (.inr (.inl (some (77))))), some (.inl (i : Int)), some (.inl v1)] [] h90 _
    refine av_wp_ret (v := none) (ck_143 _ _ rfl) rfl rfl ?_
    have z1 : (rsM b lim row t r).1 = t94 := by rw [rsM_f (by omega)]; exact q95
    exact hq h90 R (by rw [z1]; exact M93) F92 (by rw [z1, ← q95]; exact rx_f fal_ne)

set_option maxRecDepth 100000 in
set_option maxHeartbeats 4000000 in
theorem ct_144 {h : av_H} (x : Int) (qx : -2147483648 ≤ x ∧ x ≤ 2147483647) {Q : Option av_V → av_H → Prop} (hq1 : (x = 0 ∨ x = 3) → Q (some (.inl 1)) h) (hq0 : ¬ (x = 0 ∨ x = 3) → Q (some (.inl 0)) h) : av_wp none cd_144 0 [some (.inr (.inr (.inl (some (77))))), some (.inl x)] [] h Q := by
  refine av_wp_sqF ck_144 1 (pc' := 1) (lv' := [some (.inr (.inr (.inl (some (77))))), some (.inl x)]) (st' := [.inl x]) (h' := h) rfl ?_
  refine wq_k1 (p' := 4) (ck_144 _ _ rfl) rfl ⟨by omega, by omega⟩ (fun c1 => ?_) (fun c2 => ?_)
  · have c1 : x = (0) := c1
    refine av_wp_sqF ck_144 2 (pc' := 14) (lv' := [some (.inr (.inr (.inl (some (77))))), some (.inl x)]) (st' := [.inl (1)]) (h' := h) rfl ?_
    refine av_wp_ret (v := some (.inl (1))) (ck_144 _ _ rfl) rfl rfl ?_
    exact hq1 (by omega)
  · have c2 : x ≠ (0) := c2
    refine av_wp_sqF ck_144 2 (pc' := 6) (lv' := [some (.inr (.inr (.inl (some (77))))), some (.inl x)]) (st' := [.inl (3), .inl x]) (h' := h) rfl ?_
    refine wq_k2 (p' := 9) (ck_144 _ _ rfl) rfl ⟨by omega, by omega⟩ ⟨by omega, by omega⟩ (fun c3 => ?_) (fun c4 => ?_)
    · have c3 : x ≠ (3) := c3
      refine av_wp_sqF ck_144 1 (pc' := 14) (lv' := [some (.inr (.inr (.inl (some (77))))), some (.inl x)]) (st' := [.inl (0)]) (h' := h) rfl ?_
      refine av_wp_ret (v := some (.inl (0))) (ck_144 _ _ rfl) rfl rfl ?_
      exact hq0 (by omega)
    · have c4 : x = (3) := c4
      refine av_wp_sqF ck_144 2 (pc' := 14) (lv' := [some (.inr (.inr (.inl (some (77))))), some (.inl x)]) (st' := [.inl (1)]) (h' := h) rfl ?_
      refine av_wp_ret (v := some (.inl (1))) (ck_144 _ _ rfl) rfl rfl ?_
      exact hq1 (by omega)

