/-! THE CLASS'S LOOKS: steps that keep IC -/
theorem Fr1_tr {g h k : av_H} (a : Fr1 g h) (b : Fr1 h k) : Fr1 g k := ⟨Fr_tr a.1 b.1, b.2.trans a.2⟩
theorem FX_61 {p : Nat} {g h k : av_H} (a : FX p g h) (b : FX 61 h k) : FX p g k := ⟨Fr_tr a.1 b.1, fun o f e1 e2 => (b.2 o f e2 e2).trans (a.2 o f e1 e2)⟩
theorem FX_of1 {p : Nat} {g h : av_H} (a : Fr1 g h) : FX p g h := ⟨a.1, fun o f _ _ => by rw [a.2]⟩
section
variable {h : av_H}
theorem ic_cc (I : IC h) : 0 ≤ hF h 3 3 ∧ hF h 3 3 ≤ 16 := I.2.2.2.1.1
theorem ic_lc (I : IC h) : 0 ≤ hF h 3 4 ∧ hF h 3 4 ≤ 8 := I.2.2.2.1.2.1
theorem ic_kc (I : IC h) : 0 ≤ hF h 3 5 ∧ hF h 3 5 ≤ 6 := I.2.2.2.1.2.2
theorem ic_hl (I : IC h) : 0 ≤ hF h 26 9 ∧ hF h 26 9 ≤ 7 := I.2.2.2.2.1.1
theorem ic_hc (I : IC h) : 0 ≤ hF h 26 10 ∧ hF h 26 10 ≤ 1023 := I.2.2.2.2.1.2
theorem ic_mb {b : Nat} (I : IC h) (hb : bn b) : -1 ≤ hF h b 13 ∧ hF h b 13 ≤ 11 := (I.2.2.2.2.2 b hb).1
theorem ic_mo {b : Nat} (I : IC h) (hb : bn b) : -1 ≤ hF h b 14 ∧ hF h b 14 ≤ 11 := (I.2.2.2.2.2 b hb).2.1
theorem ly_l (L : LY h) {i : Nat} (hi : i < 8) : hK h (6 + i) = (20, 14) := by
  have h1 : ∀ i, i < 8 → c_K (6 + i) = (20, 14) := by decide
  rw [← h1 i hi]
  exact L.1 (6 + i) (Nat.ble_eq_true_of_le (by omega))
theorem ly_q (L : LY h) {i : Nat} (hi : i < 6) : hK h (15 + i) = (20, 14) := by
  have h1 : ∀ i, i < 6 → c_K (15 + i) = (20, 14) := by decide
  rw [← h1 i hi]
  exact L.1 (15 + i) (Nat.ble_eq_true_of_le (by omega))
end
theorem rwc_l {i : Nat} (hi : i < 8) : rwc (6 + i) = true := by
  have h1 : ∀ i, i < 8 → rwc (6 + i) = true := by decide
  exact h1 i hi
theorem rwc_q {i : Nat} (hi : i < 6) : rwc (15 + i) = true := by
  have h1 : ∀ i, i < 6 → rwc (15 + i) = true := by decide
  exact h1 i hi
section
variable {sc : av_Sr} {cd : List (Nat × av_E)} {Q : Option av_V → av_H → Prop} {pc p' : Nat} {lv : av_L} {r' : List av_V} {h : av_H}
theorem ic_as {a n : Nat} {x v : Int} (hx : cd.lookup pc = some (av_q (.iastore))) (hp : pc + 1 = p') (I : IC h) (hk : hK h a = (20, n)) (ha : sA a = true) (hr : rwc a = true → -2 ≤ v ∧ v ≤ 999) (hi : 0 ≤ x ∧ x < n ∧ (n : Int) < 2147483648) (hw : ∀ h', IC h' → Fr1 h h' → av_wp sc cd p' lv r' h' Q) : av_wp sc cd pc lv (.inl v :: .inl x :: .inr (.inr (.inl (some a))) :: r') h Q :=
  wq_as hx hp hk hi (hw _ (IC_wA I ha hr) (Fr1_wA (Fr1_rf h) ha))
theorem ic_zs {a n : Nat} {x v : Int} (hx : cd.lookup pc = some (av_q (.bastore))) (hp : pc + 1 = p') (I : IC h) (hk : hK h a = (22, n)) (ha : sA a = true) (hr : rwc a = true → -2 ≤ v ∧ v ≤ 999) (hi : 0 ≤ x ∧ x < n ∧ (n : Int) < 2147483648) (hv : v = 0 ∨ v = 1) (hw : ∀ h', IC h' → Fr1 h h' → av_wp sc cd p' lv r' h' Q) : av_wp sc cd pc lv (.inl v :: .inl x :: .inr (.inr (.inl (some a))) :: r') h Q :=
  wq_zs hx hp hk hi hv (hw _ (IC_wA I ha hr) (Fr1_wA (Fr1_rf h) ha))
theorem ic_ph {idx f : Nat} {v : Int} (hx : cd.lookup pc = some (av_qf (.putfield idx) 3 f 0)) (hp : pc + 3 = p') (I : IC h) (hf : (f = 9 ∧ 0 ≤ v ∧ v ≤ 7) ∨ (f = 10 ∧ 0 ≤ v ∧ v ≤ 1023)) (hw : ∀ h', IC h' → Fr1 h h' → av_wp sc cd p' lv r' h' Q) : av_wp sc cd pc lv (.inl v :: .inr (.inr (.inl (some 26))) :: r') h Q :=
  wq_pi hx hp (congrArg Prod.fst (ly_k I.1 26 rfl)) rfl (hw _ (IC_wH I hf) (Fr1_wF (Fr1_rf h) (by rcases hf with e | e <;> rw [e.1] <;> rfl)))
theorem ic_pt {idx b t c s : Nat} {cb : Int} (hx : cd.lookup pc = some (av_qf (.putfield idx) 0 12 2)) (hp : pc + 3 = p') (I : IC h) (hb : bn b) (o : CO h t c s cb) (hw : ∀ h', IC h' → FX b h h' → hG h' b 12 = some t → av_wp sc cd p' lv r' h' Q) : av_wp sc cd pc lv (.inr (.inr (.inl (some t))) :: .inr (.inr (.inl (some b))) :: r') h Q :=
  wq_pr hx hp (congrArg Prod.fst (bn_k0 I.1 hb)) rfl (hw _ (IC_wT I hb o) ⟨Fr_wG (Fr_rf h) (by simp [sG, sB_bn hb]), fun q f e _ => by
    show av_u2 h.2.2.2.2.2.1 b 12 (some t) q f = _
    rw [av_u2_ne e]⟩ av_u2_self)
theorem ic_pu {idx b t r : Nat} (hx : cd.lookup pc = some (av_qf (.putfield idx) 0 11 2)) (hp : pc + 3 = p') (I : IC h) (hb : bn b) (k : hK h r = (20, 14)) (k2 : rwc r = true) (ht : hG h b 12 = some t) (hw : ∀ h', IC h' → FX b h h' → hG h' b 12 = some t → hG h' b 11 = some r → av_wp sc cd p' lv r' h' Q) : av_wp sc cd pc lv (.inr (.inr (.inl (some r))) :: .inr (.inr (.inl (some b))) :: r') h Q :=
  wq_pr hx hp (congrArg Prod.fst (bn_k0 I.1 hb)) rfl (hw _ (IC_wU I hb k k2) ⟨Fr_wG (Fr_rf h) (by simp [sG, sB_bn hb]), fun q f e _ => by
    show av_u2 h.2.2.2.2.2.1 b 11 (some r) q f = _
    rw [av_u2_ne e]⟩ (by
    show av_u2 h.2.2.2.2.2.1 b 11 (some r) b 12 = _
    rw [av_u2_oth (by decide)]; exact ht) av_u2_self)
end
/-- a row copied -/
def hcp (h : av_H) (d sp dp n : Nat) (f : Nat → Int) : av_H := (h.1, h.2.1, h.2.2.1, av_cpy h.2.2.2.1 d sp dp n f, h.2.2.2.2)
theorem IC_A {h : av_H} {A : Nat → Nat → Int} (I : IC h) (e1 : ∀ a, sA a = false → A a = hA h a) (e2 : ∀ a, rwc a = true → ∀ j, -2 ≤ A a j ∧ A a j ≤ 999) : IC (h.1, h.2.1, h.2.2.1, A, h.2.2.2.2) ∧ Fr1 h (h.1, h.2.1, h.2.2.1, A, h.2.2.2.2) := by
  have F : Fr h (h.1, h.2.1, h.2.2.1, A, h.2.2.2.2) := ⟨rfl, rfl, rfl, rfl, fun _ _ _ => rfl, fun _ _ _ => rfl, e1⟩
  exact ⟨⟨LY_fr I.1 F, e2, SH_fr I.1 I.2.2.1 F, I.2.2.2.1, I.2.2.2.2.1, BB_fr I.1 I.2.2.2.2.2 F rfl (fun _ _ => ⟨rfl, rfl⟩)⟩, F, rfl⟩
theorem wq_ac {sc : av_Sr} {cd : List (Nat × av_E)} {Q : Option av_V → av_H → Prop} {pc p' : Nat} {lv : av_L} {r : List av_V} {h : av_H} {ins : Instr} {d q nd nq : Nat} {n dp sp : Int} (hx : cd.lookup pc = some (av_qa ins 1003)) (hp : pc + 3 = p') (hk : av_kd (av_qa ins 1003) = 0) (hs : ∀ lv st, av_stp sc (av_qa ins 1003) pc lv st h = av_lib 1003 pc lv st h) (hr : Nat.ble (r.map av_cat).sum 8 = true) (kd : hK h d = (20, nd)) (kq : hK h q = (20, nq)) (e0 : 0 ≤ n ∧ 0 ≤ dp ∧ 0 ≤ sp) (e1 : sp + n ≤ nq) (e2 : dp + n ≤ nd) (e3 : (nd : Int) < 2147483648 ∧ (nq : Int) < 2147483648) (hw : av_wp sc cd p' lv r (hcp h d sp.toNat dp.toNat n.toNat (hA h q)) Q) : av_wp sc cd pc lv (.inl n :: .inl dp :: .inr (.inr (.inl (some d))) :: .inl sp :: .inr (.inr (.inl (some q))) :: r) h Q := by
  intro hg
  subst hp
  refine av_wp_st1 hx (pc' := pc + 3) (lv' := lv) (st' := r) (h' := hcp h d sp.toNat dp.toNat n.toNat (hA h q)) hk ?_ hw hg
  rw [hs]
  have kd1 : (h.2.2.1 d).1 = 20 := by rw [show h.2.2.1 d = (20, nd) from kd]
  have kd2 : (h.2.2.1 d).2 = nd := by rw [show h.2.2.1 d = (20, nd) from kd]
  have kq1 : (h.2.2.1 q).1 = 20 := by rw [show h.2.2.1 q = (20, nq) from kq]
  have kq2 : (h.2.2.1 q).2 = nq := by rw [show h.2.2.1 q = (20, nq) from kq]
  simp only [av_lib]
  rw [kd2, kq2, av_rgw (x := n) ⟨by omega, by omega⟩, av_rgw (x := dp) ⟨by omega, by omega⟩, av_rgw (x := sp) ⟨by omega, by omega⟩, if_pos ⟨Nat.le_of_ble_eq_true hr, ⟨av_ltN hg kd1 rfl, kd1⟩, ⟨av_ltN hg kq1 rfl, kq1⟩, e0, e1, e2⟩]
  rfl
theorem ic_cp {sc : av_Sr} {cd : List (Nat × av_E)} {Q : Option av_V → av_H → Prop} {pc p' : Nat} {lv : av_L} {r : List av_V} {h : av_H} {ins : Instr} {q : Nat} (hx : cd.lookup pc = some (av_qa ins 1003)) (hp : pc + 3 = p') (hk : av_kd (av_qa ins 1003) = 0) (hs : ∀ lv st, av_stp sc (av_qa ins 1003) pc lv st h = av_lib 1003 pc lv st h) (hr : Nat.ble (r.map av_cat).sum 8 = true) (I : IC h) (kq : hK h q = (20, 14)) (k2 : rwc q = true) (hw : ∀ h', IC h' → Fr1 h h' → av_wp sc cd p' lv r h' Q) : av_wp sc cd pc lv (.inl (14) :: .inl (0) :: .inr (.inr (.inl (some (30)))) :: .inl (0) :: .inr (.inr (.inl (some q))) :: r) h Q := by
  refine wq_ac hx hp hk hs hr (ly_k I.1 30 rfl) kq (by omega) (by omega) (by omega) (by omega) ?_
  obtain ⟨i1, i2⟩ := IC_A (A := av_cpy h.2.2.2.1 30 (0 : Int).toNat (0 : Int).toNat (14 : Int).toNat (hA h q)) I (fun a ha => by
    have hne : a ≠ 30 := fun z => by rw [z] at ha; cases ha
    funext j
    unfold av_cpy
    rw [if_neg (fun z => hne z.1)]) (fun a ha j => by
    unfold av_cpy
    split
    · exact I.2.1 q k2 _
    · exact I.2.1 a ha j)
  exact hw _ i1 i2
/-- a row filled from lo up to hi -/
def hfil (h : av_H) (a lo hi : Nat) (v : Int) : av_H := (h.1, h.2.1, h.2.2.1, (fun q j => if q = a ∧ lo ≤ j ∧ j < hi then v else h.2.2.2.1 q j), h.2.2.2.2)
theorem hfil_0 (h : av_H) (a lo : Nat) (v : Int) : hfil h a lo lo v = h := by
  unfold hfil
  have : (fun q j => if q = a ∧ lo ≤ j ∧ j < lo then v else h.2.2.2.1 q j) = h.2.2.2.1 := by
    funext q j
    rw [if_neg (by omega)]
  rw [this]
theorem hfil_s (h : av_H) (a lo hi : Nat) (v : Int) (e : lo ≤ hi) : hwA (hfil h a lo hi v) a hi v = hfil h a lo (hi + 1) v := by
  unfold hfil hwA
  have : av_u2 (fun q j => if q = a ∧ lo ≤ j ∧ j < hi then v else h.2.2.2.1 q j) a hi v = (fun q j => if q = a ∧ lo ≤ j ∧ j < hi + 1 then v else h.2.2.2.1 q j) := by
    funext q j
    unfold av_u2
    by_cases e1 : q = a ∧ j = hi
    · rw [if_pos e1, if_pos (by omega)]
    · rw [if_neg e1]
      show (if q = a ∧ lo ≤ j ∧ j < hi then v else h.2.2.2.1 q j) = (if q = a ∧ lo ≤ j ∧ j < hi + 1 then v else h.2.2.2.1 q j)
      by_cases e2 : q = a ∧ lo ≤ j ∧ j < hi
      · rw [if_pos e2, if_pos (by omega)]
      · rw [if_neg e2, if_neg (by omega)]
  exact congrArg (fun A => ((h.1, h.2.1, h.2.2.1, A, h.2.2.2.2) : av_H)) this
theorem IC_fil {h : av_H} {a lo hi : Nat} {v : Int} (I : IC h) (ha : sA a = true) (hr : rwc a = true → -2 ≤ v ∧ v ≤ 999) (e : lo ≤ hi) : IC (hfil h a lo hi v) ∧ Fr1 h (hfil h a lo hi v) := by
  induction hi with
  | zero =>
    have : lo = 0 := by omega
    subst this
    rw [hfil_0]
    exact ⟨I, Fr1_rf h⟩
  | succ n ih =>
    by_cases e1 : lo = n + 1
    · rw [e1, hfil_0]
      exact ⟨I, Fr1_rf h⟩
    · obtain ⟨i1, i2⟩ := ih (by omega)
      rw [← hfil_s h a lo n v (by omega)]
      exact ⟨IC_wA i1 ha hr, Fr1_wA i2 ha⟩
set_option maxRecDepth 100000 in
set_option maxHeartbeats 4000000 in
theorem ct_220 {h : av_H} {a n : Nat} {v : Int} (hk : hK h a = (20, n)) (hn : (n : Int) < 2147483648) {Q : Option av_V → av_H → Prop} (hq : Q none (hfil h a 0 n v)) : av_wp none cd_220 0 [some (.inr (.inr (.inl (some a)))), some (.inl v), none, none] [] h Q := by
  refine av_wp_seq 3 (pc' := 3) (lv' := [some (.inr (.inr (.inl (some a)))), some (.inl v), some (.inl (0)), none]) (st' := [.inr (.inr (.inl (some a)))]) (h' := h) rfl ?_
  refine wq_ln (p' := 4) rfl rfl hk (by simp) ?_
  refine av_wp_seq 1 (pc' := 5) (lv' := [some (.inr (.inr (.inl (some a)))), some (.inl v), some (.inl (0)), some (.inl (n : Int))]) (st' := []) (h' := h) rfl ?_
  have lp : ∀ (m k : Nat), k + m = n → av_wp none cd_220 5 [some (.inr (.inr (.inl (some a)))), some (.inl v), some (.inl (k : Int)), some (.inl (n : Int))] [] (hfil h a 0 k v) Q := by
    intro m
    induction m with
    | zero =>
      intro k e
      have e : k = n := by omega
      subst e
      refine av_wp_seq 2 (pc' := 7) (lv' := [some (.inr (.inr (.inl (some a)))), some (.inl v), some (.inl (k : Int)), some (.inl (k : Int))]) (st' := [.inl (k : Int), .inl (k : Int)]) (h' := hfil h a 0 k v) rfl ?_
      refine wq_k2 (p' := 10) rfl rfl ⟨by omega, by omega⟩ ⟨by omega, by omega⟩ (fun _ => ?_) (fun c => ?_)
      · exact av_wp_ret (v := none) rfl rfl rfl hq
      · have c : (k : Int) < (k : Int) := c
        omega
    | succ m ih =>
      intro k e
      refine av_wp_seq 2 (pc' := 7) (lv' := [some (.inr (.inr (.inl (some a)))), some (.inl v), some (.inl (k : Int)), some (.inl (n : Int))]) (st' := [.inl (n : Int), .inl (k : Int)]) (h' := hfil h a 0 k v) rfl ?_
      refine wq_k2 (p' := 10) rfl rfl ⟨by omega, by omega⟩ ⟨by omega, by omega⟩ (fun c => ?_) (fun _ => ?_)
      · have c : (n : Int) ≤ (k : Int) := c
        omega
      · refine av_wp_seq 3 (pc' := 13) (lv' := [some (.inr (.inr (.inl (some a)))), some (.inl v), some (.inl (k : Int)), some (.inl (n : Int))]) (st' := [.inl v, .inl (k : Int), .inr (.inr (.inl (some a)))]) (h' := hfil h a 0 k v) rfl ?_
        refine wq_as (p' := 14) (n := n) rfl rfl hk (by omega) ?_
        rw [show ((k : Nat) : Int).toNat = k from rfl, hfil_s h a 0 k v (by omega)]
        refine av_wp_seq 2 (pc' := 5) (lv' := [some (.inr (.inr (.inl (some a)))), some (.inl v), some (.inl ((k : Int) + 1)), some (.inl (n : Int))]) (st' := []) (h' := hfil h a 0 (k + 1) v) rfl ?_
        exact ih (k + 1) (by omega)
  have := lp n 0 (by omega)
  rw [hfil_0] at this
  exact this
set_option maxRecDepth 100000 in
set_option maxHeartbeats 4000000 in
theorem ct_219 {h : av_H} (a b c : Int) (e : 0 ≤ b ∧ b ≤ c ∧ c ≤ a ∧ a ≤ 2147483647) {Q : Option av_V → av_H → Prop} (hq : Q none h) : av_wp none cd_219 0 [some (.inl a), some (.inl b), some (.inl c)] [] h Q := by
  refine av_wp_seq 2 (pc' := 2) (lv' := [some (.inl a), some (.inl b), some (.inl c)]) (st' := [.inl c, .inl b]) (h' := h) rfl ?_
  refine wq_k2 (p' := 5) rfl rfl ⟨by omega, by omega⟩ ⟨by omega, by omega⟩ (fun _ => ?_) (fun z => ?_)
  · refine av_wp_seq 1 (pc' := 47) (lv' := [some (.inl a), some (.inl b), some (.inl c)]) (st' := [.inl b]) (h' := h) rfl ?_
    refine wq_k1 (p' := 50) rfl rfl ⟨by omega, by omega⟩ (fun _ => ?_) (fun z => ?_)
    · refine av_wp_seq 2 (pc' := 61) (lv' := [some (.inl a), some (.inl b), some (.inl c)]) (st' := [.inl a, .inl c]) (h' := h) rfl ?_
      refine wq_k2 (p' := 64) rfl rfl ⟨by omega, by omega⟩ ⟨by omega, by omega⟩ (fun _ => ?_) (fun z => ?_)
      · exact av_wp_ret (v := none) rfl rfl rfl hq
      · have z : a < c := z
        omega
    · have z : b < 0 := z
      omega
  · have z : c < b := z
    omega
set_option maxRecDepth 100000 in
set_option maxHeartbeats 4000000 in
theorem ct_221 {h : av_H} {a n : Nat} {v : Int} (lo hi : Nat) {x y : Int} (hx : x = (lo : Int)) (hy : y = (hi : Int)) (hk : hK h a = (20, n)) (hn : (n : Int) < 2147483648) (e1 : lo ≤ hi) (e2 : hi ≤ n) {Q : Option av_V → av_H → Prop} (hq : Q none (hfil h a lo hi v)) : av_wp none cd_221 0 [some (.inr (.inr (.inl (some a)))), some (.inl x), some (.inl y), some (.inl v), none] [] h Q := by
  subst hx
  subst hy
  refine av_wp_seq 1 (pc' := 1) (lv' := [some (.inr (.inr (.inl (some a)))), some (.inl (lo : Int)), some (.inl (hi : Int)), some (.inl v), none]) (st' := [.inr (.inr (.inl (some a)))]) (h' := h) rfl ?_
  refine wq_ln (p' := 2) rfl rfl hk (by simp) ?_
  refine av_wp_seq 2 (pc' := 4) (lv' := [some (.inr (.inr (.inl (some a)))), some (.inl (lo : Int)), some (.inl (hi : Int)), some (.inl v), none]) (st' := [.inl (hi : Int), .inl (lo : Int), .inl (n : Int)]) (h' := h) rfl ?_
  refine wq_cs (p' := 7) (av_qc (.invokestatic 13) 219 3 2 10) 3 cd_219 [.inl (n : Int), .inl (lo : Int), .inl (hi : Int)] [.inl (hi : Int), .inl (lo : Int), .inl (n : Int)] [some (.inl (n : Int)), some (.inl (lo : Int)), some (.inl (hi : Int))] rfl rfl rfl pp_219 (fun _ => rfl) rfl rfl ?_
  refine ct_219 _ _ _ (by omega) ?_
  show av_wp _ cd_221 7 [some (.inr (.inr (.inl (some a)))), some (.inl (lo : Int)), some (.inl (hi : Int)), some (.inl v), none] [] h _
  refine av_wp_seq 2 (pc' := 10) (lv' := [some (.inr (.inr (.inl (some a)))), some (.inl (lo : Int)), some (.inl (hi : Int)), some (.inl v), some (.inl (lo : Int))]) (st' := []) (h' := h) rfl ?_
  have lp : ∀ (m k : Nat), lo ≤ k → k + m = hi → av_wp none cd_221 10 [some (.inr (.inr (.inl (some a)))), some (.inl (lo : Int)), some (.inl (hi : Int)), some (.inl v), some (.inl (k : Int))] [] (hfil h a lo k v) Q := by
    intro m
    induction m with
    | zero =>
      intro k _ e
      have e : k = hi := by omega
      subst e
      refine av_wp_seq 2 (pc' := 13) (lv' := [some (.inr (.inr (.inl (some a)))), some (.inl (lo : Int)), some (.inl (k : Int)), some (.inl v), some (.inl (k : Int))]) (st' := [.inl (k : Int), .inl (k : Int)]) (h' := hfil h a lo k v) rfl ?_
      refine wq_k2 (p' := 16) rfl rfl ⟨by omega, by omega⟩ ⟨by omega, by omega⟩ (fun _ => ?_) (fun c => ?_)
      · exact av_wp_ret (v := none) rfl rfl rfl hq
      · have c : (k : Int) < (k : Int) := c
        omega
    | succ m ih =>
      intro k e0 e
      refine av_wp_seq 2 (pc' := 13) (lv' := [some (.inr (.inr (.inl (some a)))), some (.inl (lo : Int)), some (.inl (hi : Int)), some (.inl v), some (.inl (k : Int))]) (st' := [.inl (hi : Int), .inl (k : Int)]) (h' := hfil h a lo k v) rfl ?_
      refine wq_k2 (p' := 16) rfl rfl ⟨by omega, by omega⟩ ⟨by omega, by omega⟩ (fun c => ?_) (fun _ => ?_)
      · have c : (hi : Int) ≤ (k : Int) := c
        omega
      · refine av_wp_seq 3 (pc' := 20) (lv' := [some (.inr (.inr (.inl (some a)))), some (.inl (lo : Int)), some (.inl (hi : Int)), some (.inl v), some (.inl (k : Int))]) (st' := [.inl v, .inl (k : Int), .inr (.inr (.inl (some a)))]) (h' := hfil h a lo k v) rfl ?_
        refine wq_as (p' := 21) (n := n) rfl rfl hk (by omega) ?_
        rw [show ((k : Nat) : Int).toNat = k from rfl, hfil_s h a lo k v e0]
        refine av_wp_seq 2 (pc' := 10) (lv' := [some (.inr (.inr (.inl (some a)))), some (.inl (lo : Int)), some (.inl (hi : Int)), some (.inl v), some (.inl ((k : Int) + 1))]) (st' := []) (h' := hfil h a lo (k + 1) v) rfl ?_
        exact ih (k + 1) (by omega) (by omega)
  have := lp (hi - lo) lo (by omega) (by omega)
  rw [hfil_0] at this
  exact this
