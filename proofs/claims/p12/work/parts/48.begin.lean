/-! THE CLASS BEGINS TO READ -/
set_option maxRecDepth 100000 in
set_option maxHeartbeats 4000000 in
theorem ct_80 {h : av_H} (L : LY h) {len : Int} (hl : hF h 1 1 = len) (ql : 0 ≤ len ∧ len ≤ 900) (n : Int) (qn : -2147483648 ≤ n ∧ n ≤ 2147483647) {Q : Option av_V → av_H → Prop} (hq : ∀ v : Int, ((v = 1 ∧ 0 ≤ n ∧ n ≤ len) ∨ (v = 0 ∧ (n < 0 ∨ len < n))) → Q (some (.inl v)) h) : av_wp none cd_80 0 [some (.inr (.inr (.inl (some (1))))), some (.inl n)] [] h Q := by
  refine av_wp_seq 1 (pc' := 1) (lv' := [some (.inr (.inr (.inl (some (1))))), some (.inl n)]) (st' := [.inl n]) (h' := h) rfl ?_
  refine wq_k1 (p' := 4) rfl rfl ⟨by omega, by omega⟩ (fun c1 => ?_) (fun c2 => ?_)
  · have c1 : n < 0 := c1
    refine av_wp_seq 1 (pc' := 17) (lv' := [some (.inr (.inr (.inl (some (1))))), some (.inl n)]) (st' := [.inl (0)]) (h' := h) rfl ?_
    exact av_wp_ret (v := some (.inl (0))) rfl rfl rfl (hq _ (by omega))
  · have c2 : 0 ≤ n := c2
    refine av_wp_seq 2 (pc' := 6) (lv' := [some (.inr (.inr (.inl (some (1))))), some (.inl n)]) (st' := [.inr (.inr (.inl (some (1)))), .inl n]) (h' := h) rfl ?_
    refine wq_gi (p' := 9) rfl rfl (congrArg Prod.fst (ly_k L 1 rfl)) rfl hl ?_
    refine wq_k2 (p' := 12) rfl rfl ⟨by omega, by omega⟩ ⟨by omega, by omega⟩ (fun c3 => ?_) (fun c4 => ?_)
    · have c3 : len < n := c3
      refine av_wp_seq 1 (pc' := 17) (lv' := [some (.inr (.inr (.inl (some (1))))), some (.inl n)]) (st' := [.inl (0)]) (h' := h) rfl ?_
      exact av_wp_ret (v := some (.inl (0))) rfl rfl rfl (hq _ (by omega))
    · have c4 : n ≤ len := c4
      refine av_wp_seq 2 (pc' := 17) (lv' := [some (.inr (.inr (.inl (some (1))))), some (.inl n)]) (st' := [.inl (1)]) (h' := h) rfl ?_
      exact av_wp_ret (v := some (.inl (1))) rfl rfl rfl (hq _ (by omega))
set_option maxRecDepth 100000 in
set_option maxHeartbeats 4000000 in
theorem ct_81 {g h : av_H} {b r d : Nat → Int} {lim : Nat} {t : TT} (C : CT b lim t r d h) (F : FT g h) {len : Int} (hl : hF h 1 1 = len) (ql : 0 ≤ len ∧ len ≤ 900) (n : Int) (qn : 0 ≤ n ∧ n ≤ len) {Q : Option av_V → av_H → Prop} (hq : ∀ h', CT b n.toNat (adv b n.toNat (0, 0, 0, -1)) r d h' → FT g h' → Q none h') : av_wp none cd_81 0 [some (.inr (.inr (.inl (some (1))))), some (.inl n)] [] h Q := by
  have w := ct_wf C
  refine av_wp_seq 3 (pc' := 3) (lv' := [some (.inr (.inr (.inl (some (1))))), some (.inl n)]) (st' := [.inl n, .inr (.inr (.inl (some (1)))), .inr (.inr (.inl (some (1))))]) (h' := h) rfl ?_
  refine wq_cv (p' := 6) (av_qc (.invokevirtual 34) 80 1 0 6) 2 cd_80 [.inl n] (1) 6 [some (.inr (.inr (.inl (some (1))))), some (.inl n)] rfl rfl rfl pp_80 rfl rfl rfl (congrArg Prod.fst (ly_k C.1 1 rfl)) rfl rfl rfl rfl ?_
  refine ct_80 C.1 hl ql n (by omega) (fun v pv => ?_)
  show av_wp _ cd_81 6 [some (.inr (.inr (.inl (some (1))))), some (.inl n)] [.inl v, .inr (.inr (.inl (some (1))))] h _
  refine wq_k1 (p' := 9) rfl rfl ⟨by omega, by omega⟩ (fun c1 => ?_) (fun _ => ?_)
  · have c1 : v = 0 := c1
    omega
  refine av_wp_seq 2 (pc' := 14) (lv' := [some (.inr (.inr (.inl (some (1))))), some (.inl n)]) (st' := [.inl n, .inr (.inr (.inl (some (1))))]) (h' := h) rfl ?_
  refine wq_pi (p' := 17) rfl rfl (congrArg Prod.fst (ly_k C.1 1 rfl)) rfl ?_
  refine av_wp_seq 2 (pc' := 19) (lv' := [some (.inr (.inr (.inl (some (1))))), some (.inl n)]) (st' := [.inl (0), .inr (.inr (.inl (some (1))))]) (h' := hwF h 1 2 n) rfl ?_
  refine wq_pi (p' := 22) rfl rfl (congrArg Prod.fst (ly_k C.1 1 rfl)) rfl ?_
  refine av_wp_seq 2 (pc' := 24) (lv' := [some (.inr (.inr (.inl (some (1))))), some (.inl n)]) (st' := [.inl (-1), .inr (.inr (.inl (some (1))))]) (h' := hwF (hwF h 1 2 n) 1 4 (0)) rfl ?_
  refine wq_pi (p' := 27) rfl rfl (congrArg Prod.fst (ly_k C.1 1 rfl)) rfl ?_
  have C1 : CT b n.toNat (t.1, 0, t.2.2.1, -1) r d (hwF (hwF (hwF h 1 2 n) 1 4 (0)) 1 6 (-1)) := by
    refine ⟨C.1, C.2.1, C.2.2.1, ?_, ?_, ?_, ?_, ?_, (show hA h 23 = r from ct_r C), (show hA h 25 = d from ct_d C), ⟨w.1, Nat.zero_le _, by omega, w.2.2.2.1, by show (-1 : Int) ≤ -1 ∧ (-1 : Int) ≤ 900; omega⟩, ct_rv C, ct_dv C⟩
    · exact (hF_oth (by decide)).trans ((hF_oth (by decide)).trans (hF_self.trans (by omega)))
    · exact (hF_oth (by decide)).trans ((hF_oth (by decide)).trans ((hF_oth (by decide)).trans (show hF h 1 3 = (t.1 : Int) from ct_f C)))
    · exact (hF_oth (by decide)).trans hF_self
    · exact (hF_oth (by decide)).trans ((hF_oth (by decide)).trans ((hF_oth (by decide)).trans (show hF h 1 5 = t.2.2.1 from ct_s C)))
    · exact hF_self
  have F1 : FT g (hwF (hwF (hwF h 1 2 n) 1 4 (0)) 1 6 (-1)) := FT_wF (FT_wF (FT_wF F rfl) rfl) rfl
  generalize hwF (hwF (hwF h 1 2 n) 1 4 (0)) 1 6 (-1) = h1 at C1 F1 ⊢
  refine av_wp_seq 1 (pc' := 28) (lv' := [some (.inr (.inr (.inl (some (1))))), some (.inl n)]) (st' := [.inr (.inr (.inl (some (1))))]) (h' := h1) rfl ?_
  refine wq_cv (p' := 31) (av_qc (.invokevirtual 38) 82 0 0 6) 2 cd_82 [] (1) 6 [some (.inr (.inr (.inl (some (1))))), none] rfl rfl rfl pp_82 rfl rfl rfl (congrArg Prod.fst (ly_k C1.1 1 rfl)) rfl rfl rfl rfl ?_
  refine ct_82 C1 F1 (fun h2 C2 F2 => ?_)
  show av_wp _ cd_81 31 [some (.inr (.inr (.inl (some (1))))), some (.inl n)] [] h2 _
  exact av_wp_ret (v := none) rfl rfl rfl (hq h2 C2 F2)
