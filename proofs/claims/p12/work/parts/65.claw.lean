/-! THE CLASS'S LAWS AND CLAUSES -/
theorem wq_acs {sc : av_Sr} {cd : List (Nat × av_E)} {Q : Option av_V → av_H → Prop} {pc p' : Nat} {lv : av_L} {r : List av_V} {h : av_H} {ins : Instr} {d : Nat} (hx : cd.lookup pc = some (av_qa ins 1003)) (hp : pc + 3 = p') (hk : av_kd (av_qa ins 1003) = 0) (hs : ∀ lv st, av_stp sc (av_qa ins 1003) pc lv st h = av_lib 1003 pc lv st h) (hr : Nat.ble (r.map av_cat).sum 8 = true) (kd : hK h d = (20, 14)) (hw : av_wp sc cd p' lv r (hcp h d 0 0 14 av_plain) Q) : av_wp sc cd pc lv (.inl (14) :: .inl (0) :: .inr (.inr (.inl (some d))) :: .inl (0) :: .inr (.inr (.inr 101)) :: r) h Q := by
  intro hg
  subst hp
  refine av_wp_st1 hx (pc' := pc + 3) (lv' := lv) (st' := r) (h' := hcp h d 0 0 14 av_plain) hk ?_ hw hg
  rw [hs]
  have kd1 : (h.2.2.1 d).1 = 20 := by rw [show h.2.2.1 d = (20, 14) from kd]
  have kd2 : (h.2.2.1 d).2 = 14 := by rw [show h.2.2.1 d = (20, 14) from kd]
  simp only [av_lib]
  rw [kd2, if_pos ⟨Nat.le_of_ble_eq_true hr, ⟨av_ltN hg kd1 rfl, kd1⟩, by decide, by decide, by decide⟩]
  rfl
/-- fourteen places laid over a row -/
def plr (f p : Nat → Int) : Nat → Int := fun j => if j < 14 then p j else f j
theorem hcp_rw {h : av_H} {d : Nat} {f : Nat → Int} : hcp h d 0 0 14 f = hrw h d (plr (hA h d) f) := by
  unfold hcp hrw
  have : av_cpy h.2.2.2.1 d 0 0 14 f = av_u1 h.2.2.2.1 d (plr (hA h d) f) := by
    funext q j
    unfold av_cpy av_u1 plr
    by_cases e : q = d
    · by_cases c : j < 14
      · rw [if_pos ⟨e, by omega, by omega⟩, if_pos e, if_pos c]
        show f (0 + (j - 0)) = f j
        rw [show 0 + (j - 0) = j by omega]
      · rw [if_neg (fun z => by have z1 := z.2.2; omega), if_pos e, if_neg c, e]
    · rw [if_neg (fun z => e z.1), if_neg e]
  exact congrArg (fun A => ((h.1, h.2.1, h.2.2.1, A, h.2.2.2.2) : av_H)) this
theorem CT_rw {h : av_H} {b r d f : Nat → Int} {lim a : Nat} {t : TT} (C : CT b lim t r d h) (e2 : 2 ≠ a) (e23 : 23 ≠ a) (e25 : 25 ≠ a) : CT b lim t r d (hrw h a f) := by
  obtain ⟨c1, c2, c3, c4, c5, c6, c7, c8, c9, c10, c11⟩ := C
  exact ⟨c1, (hrw_o e2).trans c2, c3, c4, c5, c6, c7, c8, (hrw_o e23).trans c9, (hrw_o e25).trans c10, c11⟩
theorem FQ_rw {eA eR : Nat → Prop} {eF eG : Nat → Nat → Prop} {h : av_H} {a : Nat} {f : Nat → Int} (e : eA a) : FQ eA eR eF eG h (hrw h a f) 0 0 := FQ_A (fun q hq => by
  unfold av_u1
  rw [if_neg (fun z => by rw [z] at hq; exact hq e)])
def lwA (x a : Nat) : Prop := a = 23 ∨ a = 25 ∨ a = x
theorem rd_lw {R : Nat → Prop} {y x n m : Nat} {g h : av_H} (a : FQ rdA2 R (rdF2 x) nun2 g h n m) : FQ (lwA y) R (rdF2 x) nun2 g h n m := FQ_mo a (fun q e => by unfold rdA2 at e; unfold lwA; omega) (fun _ e => e) (fun _ _ e => e) (fun _ _ e => e)

set_option maxRecDepth 100000 in
set_option maxHeartbeats 4000000 in
theorem ct_72 {h : av_H} (L : LY h) {l : Int} (hl : hF h 3 4 = l) (h0 : 0 ≤ l) (h8 : l < 8) (dv : ∀ j, -2 ≤ hA h 25 j ∧ hA h 25 j ≤ 999) {Q : Option av_V → av_H → Prop} (hq : Q (some (.inl l)) (hwF (hrw h (6 + Int.toNat l) (lov (plr (hA h (6 + Int.toNat l)) av_plain) (hA h 25) 14)) 3 4 (l + 1))) : av_wp none cd_72 0 [some (.inr (.inr (.inl (some (3))))), some (.inr (.inr (.inl (some (25)))))] [] h Q := by
  refine av_wp_seq 1 (pc' := 1) (lv' := [some (.inr (.inr (.inl (some (3))))), some (.inr (.inr (.inl (some (25)))))]) (st' := [.inr (.inr (.inl (some (3))))]) (h' := h) rfl ?_
  refine wq_gi (p' := 4) rfl rfl (congrArg Prod.fst (ly_k L 3 rfl)) rfl (hl) ?_
  refine av_wp_seq 1 (pc' := 6) (lv' := [some (.inr (.inr (.inl (some (3))))), some (.inr (.inr (.inl (some (25)))))]) (st' := [.inl (8), .inl l]) (h' := h) rfl ?_
  refine wq_k2 (p' := 9) rfl rfl ⟨by omega, by omega⟩ ⟨by omega, by omega⟩ (fun c1 => ?_) (fun c2 => ?_)
  · have c1 : l < (8) := c1
    refine av_wp_seq 3 (pc' := 16) (lv' := [some (.inr (.inr (.inl (some (3))))), some (.inr (.inr (.inl (some (25)))))]) (st' := [.inr (.inr (.inl (some (3)))), .inl (0), .inr (.inr (.inr 101))]) (h' := h) rfl ?_
    refine wq_gr (p' := 19) rfl rfl (congrArg Prod.fst (ly_k L 3 rfl)) rfl (ly_g L 3 1 5 rfl) ?_
    refine av_wp_seq 1 (pc' := 20) (lv' := [some (.inr (.inr (.inl (some (3))))), some (.inr (.inr (.inl (some (25)))))]) (st' := [.inr (.inr (.inl (some (3)))), .inr (.inr (.inl (some (5)))), .inl (0), .inr (.inr (.inr 101))]) (h' := h) rfl ?_
    refine wq_gi (p' := 23) rfl rfl (congrArg Prod.fst (ly_k L 3 rfl)) rfl (hl) ?_
    refine wq_ar (p' := 24) (n := 8) (k := 32) (v := some (6 + Int.toNat l)) rfl rfl (ly_k L 5 rfl) (Or.inr (Or.inr rfl)) (by omega) (L.2.2.1 (Int.toNat l) (by omega)) ?_
    refine av_wp_seq 2 (pc' := 27) (lv' := [some (.inr (.inr (.inl (some (3))))), some (.inr (.inr (.inl (some (25)))))]) (st' := [.inl (14), .inl (0), .inr (.inr (.inl (some ((6 + Int.toNat l))))), .inl (0), .inr (.inr (.inr 101))]) (h' := h) rfl ?_
    refine wq_acs (p' := 30) rfl rfl rfl (fun _ _ => rfl) rfl (ly_l L (by omega)) ?_
    rw [hcp_rw]
    refine av_wp_seq 1 (pc' := 31) (lv' := [some (.inr (.inr (.inl (some (3))))), some (.inr (.inr (.inl (some (25)))))]) (st' := [.inr (.inr (.inl (some (3))))]) (h' := (hrw h (6 + Int.toNat l) (plr (hA h (6 + Int.toNat l)) av_plain))) rfl ?_
    refine wq_gr (p' := 34) rfl rfl (congrArg Prod.fst (ly_k L 3 rfl)) rfl (ly_g L 3 1 5 rfl) ?_
    refine av_wp_seq 1 (pc' := 35) (lv' := [some (.inr (.inr (.inl (some (3))))), some (.inr (.inr (.inl (some (25)))))]) (st' := [.inr (.inr (.inl (some (3)))), .inr (.inr (.inl (some (5))))]) (h' := (hrw h (6 + Int.toNat l) (plr (hA h (6 + Int.toNat l)) av_plain))) rfl ?_
    refine wq_gi (p' := 38) rfl rfl (congrArg Prod.fst (ly_k L 3 rfl)) rfl (hl) ?_
    refine wq_ar (p' := 39) (n := 8) (k := 32) (v := some (6 + Int.toNat l)) rfl rfl (ly_k L 5 rfl) (Or.inr (Or.inr rfl)) (by omega) (L.2.2.1 (Int.toNat l) (by omega)) ?_
    refine av_wp_seq 1 (pc' := 40) (lv' := [some (.inr (.inr (.inl (some (3))))), some (.inr (.inr (.inl (some (25)))))]) (st' := [.inr (.inr (.inl (some (25)))), .inr (.inr (.inl (some ((6 + Int.toNat l)))))]) (h' := (hrw h (6 + Int.toNat l) (plr (hA h (6 + Int.toNat l)) av_plain))) rfl ?_
    refine wq_cs (p' := 43) (av_qc (.invokestatic 45) 74 2 2 5) 3 cd_74 [.inr (.inr (.inl (some ((6 + Int.toNat l))))), .inr (.inr (.inl (some (25))))] [.inr (.inr (.inl (some (25)))), .inr (.inr (.inl (some ((6 + Int.toNat l)))))] [some (.inr (.inr (.inl (some ((6 + Int.toNat l)))))), some (.inr (.inr (.inl (some (25))))), none] rfl rfl rfl pp_74 (fun _ => rfl) rfl rfl ?_
    refine ct_74x (h := h) (a := (6 + Int.toNat l)) (q := 25) (ly_l L (by omega)) (ly_k L 25 rfl) (by omega) dv ?_
    show av_wp _ cd_72 43 [some (.inr (.inr (.inl (some (3))))), some (.inr (.inr (.inl (some (25)))))] [] (hrw h (6 + Int.toNat l) (lov (plr (hA h (6 + Int.toNat l)) av_plain) (hA h 25) 14)) _
    refine av_wp_seq 2 (pc' := 45) (lv' := [some (.inr (.inr (.inl (some (3))))), some (.inr (.inr (.inl (some (25)))))]) (st' := [.inr (.inr (.inl (some (3)))), .inr (.inr (.inl (some (3))))]) (h' := (hrw h (6 + Int.toNat l) (lov (plr (hA h (6 + Int.toNat l)) av_plain) (hA h 25) 14))) rfl ?_
    refine wq_gi (p' := 48) rfl rfl (congrArg Prod.fst (ly_k L 3 rfl)) rfl (hl) ?_
    refine av_wp_seq 2 (pc' := 50) (lv' := [some (.inr (.inr (.inl (some (3))))), some (.inr (.inr (.inl (some (25)))))]) (st' := [.inl (l + (1)), .inr (.inr (.inl (some (3))))]) (h' := (hrw h (6 + Int.toNat l) (lov (plr (hA h (6 + Int.toNat l)) av_plain) (hA h 25) 14))) rfl ?_
    refine wq_pi (p' := 53) rfl rfl (congrArg Prod.fst (ly_k L 3 rfl)) rfl ?_
    refine av_wp_seq 1 (pc' := 54) (lv' := [some (.inr (.inr (.inl (some (3))))), some (.inr (.inr (.inl (some (25)))))]) (st' := [.inr (.inr (.inl (some (3))))]) (h' := (hwF (hrw h (6 + Int.toNat l) (lov (plr (hA h (6 + Int.toNat l)) av_plain) (hA h 25) 14)) 3 4 (l + (1)))) rfl ?_
    refine wq_gi (p' := 57) rfl rfl (congrArg Prod.fst (ly_k L 3 rfl)) rfl (rfl) ?_
    refine av_wp_seq 2 (pc' := 59) (lv' := [some (.inr (.inr (.inl (some (3))))), some (.inr (.inr (.inl (some (25)))))]) (st' := [.inl ((l + (1)) - (1))]) (h' := (hwF (hrw h (6 + Int.toNat l) (lov (plr (hA h (6 + Int.toNat l)) av_plain) (hA h 25) 14)) 3 4 (l + (1)))) rfl ?_
    refine av_wp_ret (v := some (.inl ((l + (1)) - (1)))) rfl rfl rfl ?_
    rw [show l + 1 - 1 = l by omega]
    exact hq
  · have c2 : (8) ≤ l := c2
    exfalso; omega

set_option maxRecDepth 100000 in
set_option maxHeartbeats 4000000 in
theorem ct_73 {h : av_H} (L : LY h) {l : Int} (hl : hF h 3 5 = l) (h0 : 0 ≤ l) (h8 : l < 6) (dv : ∀ j, -2 ≤ hA h 25 j ∧ hA h 25 j ≤ 999) {Q : Option av_V → av_H → Prop} (hq : Q (some (.inl l)) (hwF (hrw h (15 + Int.toNat l) (plr (hA h (15 + Int.toNat l)) (hA h 25))) 3 5 (l + 1))) : av_wp none cd_73 0 [some (.inr (.inr (.inl (some (3))))), some (.inr (.inr (.inl (some (25)))))] [] h Q := by
  refine av_wp_seq 1 (pc' := 1) (lv' := [some (.inr (.inr (.inl (some (3))))), some (.inr (.inr (.inl (some (25)))))]) (st' := [.inr (.inr (.inl (some (3))))]) (h' := h) rfl ?_
  refine wq_gi (p' := 4) rfl rfl (congrArg Prod.fst (ly_k L 3 rfl)) rfl (hl) ?_
  refine av_wp_seq 1 (pc' := 6) (lv' := [some (.inr (.inr (.inl (some (3))))), some (.inr (.inr (.inl (some (25)))))]) (st' := [.inl (6), .inl l]) (h' := h) rfl ?_
  refine wq_k2 (p' := 9) rfl rfl ⟨by omega, by omega⟩ ⟨by omega, by omega⟩ (fun c1 => ?_) (fun c2 => ?_)
  · have c1 : l < (6) := c1
    refine av_wp_seq 3 (pc' := 14) (lv' := [some (.inr (.inr (.inl (some (3))))), some (.inr (.inr (.inl (some (25)))))]) (st' := [.inr (.inr (.inl (some (3)))), .inl (0), .inr (.inr (.inl (some (25))))]) (h' := h) rfl ?_
    refine wq_gr (p' := 17) rfl rfl (congrArg Prod.fst (ly_k L 3 rfl)) rfl (ly_g L 3 2 14 rfl) ?_
    refine av_wp_seq 1 (pc' := 18) (lv' := [some (.inr (.inr (.inl (some (3))))), some (.inr (.inr (.inl (some (25)))))]) (st' := [.inr (.inr (.inl (some (3)))), .inr (.inr (.inl (some (14)))), .inl (0), .inr (.inr (.inl (some (25))))]) (h' := h) rfl ?_
    refine wq_gi (p' := 21) rfl rfl (congrArg Prod.fst (ly_k L 3 rfl)) rfl (hl) ?_
    refine wq_ar (p' := 22) (n := 6) (k := 32) (v := some (15 + Int.toNat l)) rfl rfl (ly_k L 14 rfl) (Or.inr (Or.inr rfl)) (by omega) (L.2.2.2 (Int.toNat l) (by omega)) ?_
    refine av_wp_seq 2 (pc' := 25) (lv' := [some (.inr (.inr (.inl (some (3))))), some (.inr (.inr (.inl (some (25)))))]) (st' := [.inl (14), .inl (0), .inr (.inr (.inl (some ((15 + Int.toNat l))))), .inl (0), .inr (.inr (.inl (some (25))))]) (h' := h) rfl ?_
    refine wq_ac (p' := 28) (nd := 14) (nq := 14) rfl rfl rfl (fun _ _ => rfl) rfl (ly_q L (by omega)) (ly_k L 25 rfl) (by omega) (by omega) (by omega) (by omega) ?_
    rw [show (0 : Int).toNat = 0 from rfl, show (14 : Int).toNat = 14 from rfl, hcp_rw]
    refine av_wp_seq 2 (pc' := 30) (lv' := [some (.inr (.inr (.inl (some (3))))), some (.inr (.inr (.inl (some (25)))))]) (st' := [.inr (.inr (.inl (some (3)))), .inr (.inr (.inl (some (3))))]) (h' := (hrw h (15 + Int.toNat l) (plr (hA h (15 + Int.toNat l)) (hA h 25)))) rfl ?_
    refine wq_gi (p' := 33) rfl rfl (congrArg Prod.fst (ly_k L 3 rfl)) rfl (hl) ?_
    refine av_wp_seq 2 (pc' := 35) (lv' := [some (.inr (.inr (.inl (some (3))))), some (.inr (.inr (.inl (some (25)))))]) (st' := [.inl (l + (1)), .inr (.inr (.inl (some (3))))]) (h' := (hrw h (15 + Int.toNat l) (plr (hA h (15 + Int.toNat l)) (hA h 25)))) rfl ?_
    refine wq_pi (p' := 38) rfl rfl (congrArg Prod.fst (ly_k L 3 rfl)) rfl ?_
    refine av_wp_seq 1 (pc' := 39) (lv' := [some (.inr (.inr (.inl (some (3))))), some (.inr (.inr (.inl (some (25)))))]) (st' := [.inr (.inr (.inl (some (3))))]) (h' := (hwF (hrw h (15 + Int.toNat l) (plr (hA h (15 + Int.toNat l)) (hA h 25))) 3 5 (l + (1)))) rfl ?_
    refine wq_gi (p' := 42) rfl rfl (congrArg Prod.fst (ly_k L 3 rfl)) rfl (rfl) ?_
    refine av_wp_seq 2 (pc' := 44) (lv' := [some (.inr (.inr (.inl (some (3))))), some (.inr (.inr (.inl (some (25)))))]) (st' := [.inl ((l + (1)) - (1))]) (h' := (hwF (hrw h (15 + Int.toNat l) (plr (hA h (15 + Int.toNat l)) (hA h 25))) 3 5 (l + (1)))) rfl ?_
    refine av_wp_ret (v := some (.inl ((l + (1)) - (1)))) rfl rfl rfl ?_
    rw [show l + 1 - 1 = l by omega]
    exact hq
  · have c2 : (6) ≤ l := c2
    exfalso; omega

set_option maxRecDepth 100000 in
set_option maxHeartbeats 4000000 in
theorem ct_97 {h : av_H} (I : IC h) (K : KT h) (n : Int) (qn : -2147483648 ≤ n ∧ n ≤ 2147483647)  {Q : Option av_V → av_H → Prop} (hqA : (n < 0 ∨ hF h 1 1 < n) → Q (some (.inl (-2))) h) (hqB : 0 ≤ n → n ≤ hF h 1 1 → hF h 3 4 = 8 → Q (some (.inl (-3))) h) (hq0 : 0 ≤ n → n ≤ hF h 1 1 → hF h 3 4 < 8 → (rlA (hA h 2) n.toNat 0 (adv (hA h 2) n.toNat (0, 0, 0, -1)) (hA h 25)).2.1.2.2.2 ≠ -1 → ∀ h', FQ rdA2 nun1 (rdF2 4) nun2 h h' 0 0 → KT h' → hF h' 1 1 = 0 → hF h' 0 8 = (rlA (hA h 2) n.toNat 0 (adv (hA h 2) n.toNat (0, 0, 0, -1)) (hA h 25)).2.1.2.2.2 → hF h' 3 4 = hF h 3 4 → Q (some (.inl (-1))) h') (hq1 : 0 ≤ n → n ≤ hF h 1 1 → hF h 3 4 < 8 → (rlA (hA h 2) n.toNat 0 (adv (hA h 2) n.toNat (0, 0, 0, -1)) (hA h 25)).2.1.2.2.2 = -1 → ∀ h', FQ (lwA (6 + Int.toNat (hF h 3 4))) nun1 (rdF2 4) nun2 h h' 0 0 → KT h' → hF h' 1 1 = 0 → hF h' 0 8 = -1 → hF h' 3 4 = hF h 3 4 + 1 → hA h' (6 + Int.toNat (hF h 3 4)) = (lov (plr (hA h (6 + Int.toNat (hF h 3 4))) av_plain) (rlA (hA h 2) n.toNat 0 (adv (hA h 2) n.toNat (0, 0, 0, -1)) (hA h 25)).2.2 14) → (∀ j, -2 ≤ (rlA (hA h 2) n.toNat 0 (adv (hA h 2) n.toNat (0, 0, 0, -1)) (hA h 25)).2.2 j ∧ (rlA (hA h 2) n.toNat 0 (adv (hA h 2) n.toNat (0, 0, 0, -1)) (hA h 25)).2.2 j ≤ 999) → Q (some (.inl (hF h 3 4))) h') : av_wp none cd_97 0 [some (.inr (.inr (.inl (some (0))))), some (.inl n), none] [] h Q := by
  refine gd_of (fun hg => ?_)
  obtain ⟨⟨lim0, t0, C⟩, ql, hz, x74⟩ := K
  have L := I.1
  obtain ⟨len, hl⟩ : ∃ v, hF h 1 1 = v := ⟨_, rfl⟩
  rw [hl] at ql
  have ln := ic_lc I
  have kn := ic_kc I
  obtain ⟨lnt, hlc⟩ : ∃ v, hF h 3 4 = v := ⟨_, rfl⟩
  obtain ⟨knt, hkc⟩ : ∃ v, hF h 3 5 = v := ⟨_, rfl⟩
  rw [hlc] at ln
  rw [hkc] at kn
  rw [hl] at hqA
  rw [hl, hlc] at hqB
  rw [hl, hlc] at hq0 hq1
  refine av_wp_seq 1 (pc' := 1) (lv' := [some (.inr (.inr (.inl (some (0))))), some (.inl n), none]) (st' := [.inr (.inr (.inl (some (0))))]) (h' := h) rfl ?_
  refine wq_gr (p' := 4) rfl rfl (congrArg Prod.fst (ly_k L 0 rfl)) rfl (ly_g L 0 0 1 rfl) ?_
  refine av_wp_seq 1 (pc' := 5) (lv' := [some (.inr (.inr (.inl (some (0))))), some (.inl n), none]) (st' := [.inl n, .inr (.inr (.inl (some (1))))]) (h' := h) rfl ?_
  refine wq_cv (p' := 8) (av_qc (.invokevirtual 75) 80 1 0 6) 2 cd_80 [.inl n] (1) 6 [some (.inr (.inr (.inl (some (1))))), some (.inl n)] rfl rfl rfl pp_80 rfl rfl rfl (congrArg Prod.fst (ly_k L 1 rfl)) rfl rfl rfl rfl ?_
  refine ct_80 L hl ql n (by omega) (fun v1 p2 => ?_)
  show av_wp _ cd_97 8 [some (.inr (.inr (.inl (some (0))))), some (.inl n), none] [.inl v1] h _
  refine wq_k1 (p' := 11) rfl rfl ⟨by omega, by omega⟩ (fun c3 => ?_) (fun c4 => ?_)
  · have c3 : v1 ≠ (0) := c3
    refine av_wp_seq 1 (pc' := 15) (lv' := [some (.inr (.inr (.inl (some (0))))), some (.inl n), none]) (st' := [.inr (.inr (.inl (some (0))))]) (h' := h) rfl ?_
    refine wq_gr (p' := 18) rfl rfl (congrArg Prod.fst (ly_k L 0 rfl)) rfl (ly_g L 0 1 3 rfl) ?_
    refine wq_gi (p' := 21) rfl rfl (congrArg Prod.fst (ly_k L 3 rfl)) rfl (hlc) ?_
    refine av_wp_seq 1 (pc' := 23) (lv' := [some (.inr (.inr (.inl (some (0))))), some (.inl n), none]) (st' := [.inl (8), .inl lnt]) (h' := h) rfl ?_
    refine wq_k2 (p' := 26) rfl rfl ⟨by omega, by omega⟩ ⟨by omega, by omega⟩ (fun c5 => ?_) (fun c6 => ?_)
    · have c5 : lnt < (8) := c5
      refine av_wp_seq 1 (pc' := 30) (lv' := [some (.inr (.inr (.inl (some (0))))), some (.inl n), none]) (st' := [.inr (.inr (.inl (some (0))))]) (h' := h) rfl ?_
      refine wq_gr (p' := 33) rfl rfl (congrArg Prod.fst (ly_k L 0 rfl)) rfl (ly_g L 0 0 1 rfl) ?_
      refine av_wp_seq 1 (pc' := 34) (lv' := [some (.inr (.inr (.inl (some (0))))), some (.inl n), none]) (st' := [.inl n, .inr (.inr (.inl (some (1))))]) (h' := h) rfl ?_
      refine wq_cv (p' := 37) (av_qc (.invokevirtual 82) 81 1 0 6) 2 cd_81 [.inl n] (1) 6 [some (.inr (.inr (.inl (some (1))))), some (.inl n)] rfl rfl rfl pp_81 rfl rfl rfl (congrArg Prod.fst (ly_k L 1 rfl)) rfl rfl rfl rfl ?_
      refine ct_81 C (FT_rf h) hl ql n (by omega) (fun h1 C1 F1 => ?_)
      show av_wp _ cd_97 37 [some (.inr (.inr (.inl (some (0))))), some (.inl n), none] [] h1 _
      refine av_wp_seq 1 (pc' := 38) (lv' := [some (.inr (.inr (.inl (some (0))))), some (.inl n), none]) (st' := [.inr (.inr (.inl (some (0))))]) (h' := h1) rfl ?_
      refine wq_gr (p' := 41) rfl rfl (congrArg Prod.fst (ly_k C1.1 0 rfl)) rfl (ly_g C1.1 0 4 24 rfl) ?_
      refine av_wp_seq 1 (pc' := 42) (lv' := [some (.inr (.inr (.inl (some (0))))), some (.inl n), none]) (st' := [.inl (0), .inr (.inr (.inl (some (24))))]) (h' := h1) rfl ?_
      refine wq_cv (p' := 45) (av_qc (.invokevirtual 113) 65 1 0 4) 4 cd_65 [.inl (0)] (24) 4 [some (.inr (.inr (.inl (some (24))))), some (.inl (0)), none, none] rfl rfl rfl pp_65 rfl rfl rfl (congrArg Prod.fst (ly_k C1.1 24 rfl)) rfl rfl rfl rfl ?_
      refine ct_65 C1 F1 ((0)) (by omega) (fun v h2 C2 F2 pv => ?_)
      show av_wp _ cd_97 45 [some (.inr (.inr (.inl (some (0))))), some (.inl n), none] [.inl v] h2 _
      refine av_wp_seq 2 (pc' := 47) (lv' := [some (.inr (.inr (.inl (some (0))))), some (.inl n), some (.inl v)]) (st' := [.inr (.inr (.inl (some (0))))]) (h' := h2) rfl ?_
      refine wq_cv (p' := 50) (av_qc (.invokevirtual 89) 99 0 0 7) 1 cd_99 [] (0) 7 [some (.inr (.inr (.inl (some (0)))))] rfl rfl rfl pp_99 rfl rfl rfl (congrArg Prod.fst (ly_k C2.1 0 rfl)) rfl rfl rfl rfl ?_
      refine ct_99 C2.1 C2 ?_
      show av_wp _ cd_97 50 [some (.inr (.inr (.inl (some (0))))), some (.inl n), some (.inl v)] [] (hwF (hwF h2 0 8 (rlA (hA h 2) n.toNat 0 (adv (hA h 2) n.toNat (0, 0, 0, -1)) (hA h 25)).2.1.2.2.2) 1 1 (0)) _
      refine av_wp_seq 1 (pc' := 51) (lv' := [some (.inr (.inr (.inl (some (0))))), some (.inl n), some (.inl v)]) (st' := [.inl v]) (h' := (hwF (hwF h2 0 8 (rlA (hA h 2) n.toNat 0 (adv (hA h 2) n.toNat (0, 0, 0, -1)) (hA h 25)).2.1.2.2.2) 1 1 (0))) rfl ?_
      refine wq_k1 (p' := 54) rfl rfl ⟨by omega, by omega⟩ (fun c7 => ?_) (fun c8 => ?_)
      · have c7 : v = (0) := c7
        refine av_wp_seq 1 (pc' := 72) (lv' := [some (.inr (.inr (.inl (some (0))))), some (.inl n), some (.inl v)]) (st' := [.inl (-1)]) (h' := (hwF (hwF h2 0 8 (rlA (hA h 2) n.toNat 0 (adv (hA h 2) n.toNat (0, 0, 0, -1)) (hA h 25)).2.1.2.2.2) 1 1 (0))) rfl ?_
        refine av_wp_ret (v := some (.inl (-1))) rfl rfl rfl ?_
        have q1 : FQ rdA2 nun1 (rdF2 4) nun2 h h2 0 0 := FQ_T F2 (Or.inl rfl) (Or.inr rfl) (fun _ => Or.inl rfl)
        have q2 := FQ_tr (FQ_tr q1 (FQ_wF (o := 0) (f := 8) (v := (rlA (hA h 2) n.toNat 0 (adv (hA h 2) n.toNat (0, 0, 0, -1)) (hA h 25)).2.1.2.2.2) (Or.inr (Or.inr (Or.inl ⟨rfl, rfl⟩))))) (FQ_wF (o := 1) (f := 1) (v := (0)) (Or.inl rfl))
        have k3 : KT (hwF (hwF h2 0 8 (rlA (hA h 2) n.toNat 0 (adv (hA h 2) n.toNat (0, 0, 0, -1)) (hA h 25)).2.1.2.2.2) 1 1 (0)) := KT_of (CT_wF0 (CT_wF0 C2 (Or.inl (by decide))) (Or.inr rfl)) (by show (0 : Int) ≤ 0 ∧ (0 : Int) ≤ 900; omega) hz (CX_fq hg q2 (fun j z => by unfold rdF2 at z; omega) (fun j z => z) (fun z => by unfold rdA2 at z; omega) x74)
        exact hq0 (by omega) (by omega) (by omega) (by omega) (hwF (hwF h2 0 8 (rlA (hA h 2) n.toNat 0 (adv (hA h 2) n.toNat (0, 0, 0, -1)) (hA h 25)).2.1.2.2.2) 1 1 (0)) q2 k3 rfl rfl ((F2.2.2.2.2.2.1 3 4 rfl).trans hlc)
      · have c8 : v ≠ (0) := c8
        refine av_wp_seq 1 (pc' := 55) (lv' := [some (.inr (.inr (.inl (some (0))))), some (.inl n), some (.inl v)]) (st' := [.inr (.inr (.inl (some (0))))]) (h' := (hwF (hwF h2 0 8 (rlA (hA h 2) n.toNat 0 (adv (hA h 2) n.toNat (0, 0, 0, -1)) (hA h 25)).2.1.2.2.2) 1 1 (0))) rfl ?_
        refine wq_gr (p' := 58) rfl rfl (congrArg Prod.fst (ly_k C2.1 0 rfl)) rfl (ly_g C2.1 0 1 3 rfl) ?_
        refine av_wp_seq 1 (pc' := 59) (lv' := [some (.inr (.inr (.inl (some (0))))), some (.inl n), some (.inl v)]) (st' := [.inr (.inr (.inl (some (0)))), .inr (.inr (.inl (some (3))))]) (h' := (hwF (hwF h2 0 8 (rlA (hA h 2) n.toNat 0 (adv (hA h 2) n.toNat (0, 0, 0, -1)) (hA h 25)).2.1.2.2.2) 1 1 (0))) rfl ?_
        refine wq_gr (p' := 62) rfl rfl (congrArg Prod.fst (ly_k C2.1 0 rfl)) rfl (ly_g C2.1 0 4 24 rfl) ?_
        refine wq_gr (p' := 65) rfl rfl (congrArg Prod.fst (ly_k C2.1 24 rfl)) rfl (ly_g C2.1 24 1 25 rfl) ?_
        refine wq_cv (p' := 68) (av_qc (.invokevirtual 120) 72 1 0 5) 2 cd_72 [.inr (.inr (.inl (some (25))))] (3) 5 [some (.inr (.inr (.inl (some (3))))), some (.inr (.inr (.inl (some (25)))))] rfl rfl rfl pp_72 rfl rfl rfl (congrArg Prod.fst (ly_k C2.1 3 rfl)) rfl rfl rfl rfl ?_
        refine ct_72 (h := (hwF (hwF h2 0 8 (rlA (hA h 2) n.toNat 0 (adv (hA h 2) n.toNat (0, 0, 0, -1)) (hA h 25)).2.1.2.2.2) 1 1 (0))) C2.1 (l := lnt) (((F2.2.2.2.2.2.1 3 4 rfl).trans hlc)) (by omega) (by omega) (fun j => by rw [show hA (hwF (hwF h2 0 8 (rlA (hA h 2) n.toNat 0 (adv (hA h 2) n.toNat (0, 0, 0, -1)) (hA h 25)).2.1.2.2.2) 1 1 (0)) 25 = hA h2 25 from rfl, ct_d C2]; exact ct_dv C2 j) ?_
        show av_wp _ cd_97 68 [some (.inr (.inr (.inl (some (0))))), some (.inl n), some (.inl v)] [.inl lnt] (hwF (hrw (hwF (hwF h2 0 8 (rlA (hA h 2) n.toNat 0 (adv (hA h 2) n.toNat (0, 0, 0, -1)) (hA h 25)).2.1.2.2.2) 1 1 (0)) (6 + Int.toNat lnt) (lov (plr (hA (hwF (hwF h2 0 8 (rlA (hA h 2) n.toNat 0 (adv (hA h 2) n.toNat (0, 0, 0, -1)) (hA h 25)).2.1.2.2.2) 1 1 (0)) (6 + Int.toNat lnt)) av_plain) (hA (hwF (hwF h2 0 8 (rlA (hA h 2) n.toNat 0 (adv (hA h 2) n.toNat (0, 0, 0, -1)) (hA h 25)).2.1.2.2.2) 1 1 (0)) 25) 14)) 3 4 (lnt + 1)) _
        refine av_wp_seq 1 (pc' := 72) (lv' := [some (.inr (.inr (.inl (some (0))))), some (.inl n), some (.inl v)]) (st' := [.inl lnt]) (h' := (hwF (hrw (hwF (hwF h2 0 8 (rlA (hA h 2) n.toNat 0 (adv (hA h 2) n.toNat (0, 0, 0, -1)) (hA h 25)).2.1.2.2.2) 1 1 (0)) (6 + Int.toNat lnt) (lov (plr (hA (hwF (hwF h2 0 8 (rlA (hA h 2) n.toNat 0 (adv (hA h 2) n.toNat (0, 0, 0, -1)) (hA h 25)).2.1.2.2.2) 1 1 (0)) (6 + Int.toNat lnt)) av_plain) (hA (hwF (hwF h2 0 8 (rlA (hA h 2) n.toNat 0 (adv (hA h 2) n.toNat (0, 0, 0, -1)) (hA h 25)).2.1.2.2.2) 1 1 (0)) 25) 14)) 3 4 (lnt + 1))) rfl ?_
        refine av_wp_ret (v := some (.inl lnt)) rfl rfl rfl ?_
        have q1 : FQ rdA2 nun1 (rdF2 4) nun2 h h2 0 0 := FQ_T F2 (Or.inl rfl) (Or.inr rfl) (fun _ => Or.inl rfl)
        have q2 := FQ_tr (FQ_tr q1 (FQ_wF (o := 0) (f := 8) (v := (rlA (hA h 2) n.toNat 0 (adv (hA h 2) n.toNat (0, 0, 0, -1)) (hA h 25)).2.1.2.2.2) (Or.inr (Or.inr (Or.inl ⟨rfl, rfl⟩))))) (FQ_wF (o := 1) (f := 1) (v := (0)) (Or.inl rfl))
        have q3 : FQ (lwA (6 + Int.toNat lnt)) nun1 (rdF2 4) nun2 h (hwF (hrw (hwF (hwF h2 0 8 (rlA (hA h 2) n.toNat 0 (adv (hA h 2) n.toNat (0, 0, 0, -1)) (hA h 25)).2.1.2.2.2) 1 1 (0)) (6 + Int.toNat lnt) (lov (plr (hA (hwF (hwF h2 0 8 (rlA (hA h 2) n.toNat 0 (adv (hA h 2) n.toNat (0, 0, 0, -1)) (hA h 25)).2.1.2.2.2) 1 1 (0)) (6 + Int.toNat lnt)) av_plain) (hA (hwF (hwF h2 0 8 (rlA (hA h 2) n.toNat 0 (adv (hA h 2) n.toNat (0, 0, 0, -1)) (hA h 25)).2.1.2.2.2) 1 1 (0)) 25) 14)) 3 4 (lnt + 1)) 0 0 := FQ_tr (FQ_tr (rd_lw q2) (FQ_rw (Or.inr (Or.inr rfl)))) (FQ_wF (Or.inr (Or.inr (Or.inr ⟨rfl, rfl⟩))))
        have k3 : KT (hwF (hrw (hwF (hwF h2 0 8 (rlA (hA h 2) n.toNat 0 (adv (hA h 2) n.toNat (0, 0, 0, -1)) (hA h 25)).2.1.2.2.2) 1 1 (0)) (6 + Int.toNat lnt) (lov (plr (hA (hwF (hwF h2 0 8 (rlA (hA h 2) n.toNat 0 (adv (hA h 2) n.toNat (0, 0, 0, -1)) (hA h 25)).2.1.2.2.2) 1 1 (0)) (6 + Int.toNat lnt)) av_plain) (hA (hwF (hwF h2 0 8 (rlA (hA h 2) n.toNat 0 (adv (hA h 2) n.toNat (0, 0, 0, -1)) (hA h 25)).2.1.2.2.2) 1 1 (0)) 25) 14)) 3 4 (lnt + 1)) := KT_of (CT_wF0 (CT_rw (CT_wF0 (CT_wF0 C2 (Or.inl (by decide))) (Or.inr rfl)) (by omega) (by omega) (by omega)) (Or.inl (by decide))) (by show (0 : Int) ≤ 0 ∧ (0 : Int) ≤ 900; omega) hz (CX_fq hg q3 (fun j z => by unfold rdF2 at z; omega) (fun j z => z) (fun z => by unfold lwA at z; omega) x74)
        have ea : hA h2 (6 + Int.toNat lnt) = hA h (6 + Int.toNat lnt) := F2.2.2.2.2.2.2 _ (by omega) (by omega)
        have er : hA (hwF (hrw (hwF (hwF h2 0 8 (rlA (hA h 2) n.toNat 0 (adv (hA h 2) n.toNat (0, 0, 0, -1)) (hA h 25)).2.1.2.2.2) 1 1 (0)) (6 + Int.toNat lnt) (lov (plr (hA (hwF (hwF h2 0 8 (rlA (hA h 2) n.toNat 0 (adv (hA h 2) n.toNat (0, 0, 0, -1)) (hA h 25)).2.1.2.2.2) 1 1 (0)) (6 + Int.toNat lnt)) av_plain) (hA (hwF (hwF h2 0 8 (rlA (hA h 2) n.toNat 0 (adv (hA h 2) n.toNat (0, 0, 0, -1)) (hA h 25)).2.1.2.2.2) 1 1 (0)) 25) 14)) 3 4 (lnt + 1)) (6 + Int.toNat lnt) = (lov (plr (hA h (6 + Int.toNat lnt)) av_plain) (rlA (hA h 2) n.toNat 0 (adv (hA h 2) n.toNat (0, 0, 0, -1)) (hA h 25)).2.2 14) := by
          rw [← ea, ← ct_d C2]
          exact hrw_s
        exact hq1 (by omega) (by omega) (by omega) (by omega) (hwF (hrw (hwF (hwF h2 0 8 (rlA (hA h 2) n.toNat 0 (adv (hA h 2) n.toNat (0, 0, 0, -1)) (hA h 25)).2.1.2.2.2) 1 1 (0)) (6 + Int.toNat lnt) (lov (plr (hA (hwF (hwF h2 0 8 (rlA (hA h 2) n.toNat 0 (adv (hA h 2) n.toNat (0, 0, 0, -1)) (hA h 25)).2.1.2.2.2) 1 1 (0)) (6 + Int.toNat lnt)) av_plain) (hA (hwF (hwF h2 0 8 (rlA (hA h 2) n.toNat 0 (adv (hA h 2) n.toNat (0, 0, 0, -1)) (hA h 25)).2.1.2.2.2) 1 1 (0)) 25) 14)) 3 4 (lnt + 1)) q3 k3 rfl (show (rlA (hA h 2) n.toNat 0 (adv (hA h 2) n.toNat (0, 0, 0, -1)) (hA h 25)).2.1.2.2.2 = -1 by omega) rfl er (ct_dv C2)
    · have c6 : (8) ≤ lnt := c6
      refine av_wp_seq 1 (pc' := 28) (lv' := [some (.inr (.inr (.inl (some (0))))), some (.inl n), none]) (st' := [.inl (-3)]) (h' := h) rfl ?_
      refine av_wp_ret (v := some (.inl (-3))) rfl rfl rfl ?_
      exact hqB (by omega) (by omega) (by omega)
  · have c4 : v1 = (0) := c4
    refine av_wp_seq 1 (pc' := 13) (lv' := [some (.inr (.inr (.inl (some (0))))), some (.inl n), none]) (st' := [.inl (-2)]) (h' := h) rfl ?_
    refine av_wp_ret (v := some (.inl (-2))) rfl rfl rfl ?_
    exact hqA (by omega)

set_option maxRecDepth 100000 in
set_option maxHeartbeats 4000000 in
theorem ct_98 {h : av_H} (I : IC h) (K : KT h) (n : Int) (qn : -2147483648 ≤ n ∧ n ≤ 2147483647)  {Q : Option av_V → av_H → Prop} (hqA : (n < 0 ∨ hF h 1 1 < n) → Q (some (.inl (-2))) h) (hqB : 0 ≤ n → n ≤ hF h 1 1 → hF h 3 5 = 6 → Q (some (.inl (-3))) h) (hq0 : 0 ≤ n → n ≤ hF h 1 1 → hF h 3 5 < 6 → (rlA (hA h 2) n.toNat 1 (adv (hA h 2) n.toNat (0, 0, 0, -1)) (hA h 25)).2.1.2.2.2 ≠ -1 → ∀ h', FQ rdA2 nun1 (rdF2 5) nun2 h h' 0 0 → KT h' → hF h' 1 1 = 0 → hF h' 0 8 = (rlA (hA h 2) n.toNat 1 (adv (hA h 2) n.toNat (0, 0, 0, -1)) (hA h 25)).2.1.2.2.2 → hF h' 3 5 = hF h 3 5 → Q (some (.inl (-1))) h') (hq1 : 0 ≤ n → n ≤ hF h 1 1 → hF h 3 5 < 6 → (rlA (hA h 2) n.toNat 1 (adv (hA h 2) n.toNat (0, 0, 0, -1)) (hA h 25)).2.1.2.2.2 = -1 → ∀ h', FQ (lwA (15 + Int.toNat (hF h 3 5))) nun1 (rdF2 5) nun2 h h' 0 0 → KT h' → hF h' 1 1 = 0 → hF h' 0 8 = -1 → hF h' 3 5 = hF h 3 5 + 1 → hA h' (15 + Int.toNat (hF h 3 5)) = (plr (hA h (15 + Int.toNat (hF h 3 5))) (rlA (hA h 2) n.toNat 1 (adv (hA h 2) n.toNat (0, 0, 0, -1)) (hA h 25)).2.2) → (∀ j, -2 ≤ (rlA (hA h 2) n.toNat 1 (adv (hA h 2) n.toNat (0, 0, 0, -1)) (hA h 25)).2.2 j ∧ (rlA (hA h 2) n.toNat 1 (adv (hA h 2) n.toNat (0, 0, 0, -1)) (hA h 25)).2.2 j ≤ 999) → Q (some (.inl (hF h 3 5))) h') : av_wp none cd_98 0 [some (.inr (.inr (.inl (some (0))))), some (.inl n), none] [] h Q := by
  refine gd_of (fun hg => ?_)
  obtain ⟨⟨lim0, t0, C⟩, ql, hz, x74⟩ := K
  have L := I.1
  obtain ⟨len, hl⟩ : ∃ v, hF h 1 1 = v := ⟨_, rfl⟩
  rw [hl] at ql
  have ln := ic_lc I
  have kn := ic_kc I
  obtain ⟨lnt, hlc⟩ : ∃ v, hF h 3 4 = v := ⟨_, rfl⟩
  obtain ⟨knt, hkc⟩ : ∃ v, hF h 3 5 = v := ⟨_, rfl⟩
  rw [hlc] at ln
  rw [hkc] at kn
  rw [hl] at hqA
  rw [hl, hkc] at hqB
  rw [hl, hkc] at hq0 hq1
  refine av_wp_seq 1 (pc' := 1) (lv' := [some (.inr (.inr (.inl (some (0))))), some (.inl n), none]) (st' := [.inr (.inr (.inl (some (0))))]) (h' := h) rfl ?_
  refine wq_gr (p' := 4) rfl rfl (congrArg Prod.fst (ly_k L 0 rfl)) rfl (ly_g L 0 0 1 rfl) ?_
  refine av_wp_seq 1 (pc' := 5) (lv' := [some (.inr (.inr (.inl (some (0))))), some (.inl n), none]) (st' := [.inl n, .inr (.inr (.inl (some (1))))]) (h' := h) rfl ?_
  refine wq_cv (p' := 8) (av_qc (.invokevirtual 75) 80 1 0 6) 2 cd_80 [.inl n] (1) 6 [some (.inr (.inr (.inl (some (1))))), some (.inl n)] rfl rfl rfl pp_80 rfl rfl rfl (congrArg Prod.fst (ly_k L 1 rfl)) rfl rfl rfl rfl ?_
  refine ct_80 L hl ql n (by omega) (fun v1 p2 => ?_)
  show av_wp _ cd_98 8 [some (.inr (.inr (.inl (some (0))))), some (.inl n), none] [.inl v1] h _
  refine wq_k1 (p' := 11) rfl rfl ⟨by omega, by omega⟩ (fun c3 => ?_) (fun c4 => ?_)
  · have c3 : v1 ≠ (0) := c3
    refine av_wp_seq 1 (pc' := 15) (lv' := [some (.inr (.inr (.inl (some (0))))), some (.inl n), none]) (st' := [.inr (.inr (.inl (some (0))))]) (h' := h) rfl ?_
    refine wq_gr (p' := 18) rfl rfl (congrArg Prod.fst (ly_k L 0 rfl)) rfl (ly_g L 0 1 3 rfl) ?_
    refine wq_gi (p' := 21) rfl rfl (congrArg Prod.fst (ly_k L 3 rfl)) rfl (hkc) ?_
    refine av_wp_seq 1 (pc' := 23) (lv' := [some (.inr (.inr (.inl (some (0))))), some (.inl n), none]) (st' := [.inl (6), .inl knt]) (h' := h) rfl ?_
    refine wq_k2 (p' := 26) rfl rfl ⟨by omega, by omega⟩ ⟨by omega, by omega⟩ (fun c5 => ?_) (fun c6 => ?_)
    · have c5 : knt < (6) := c5
      refine av_wp_seq 1 (pc' := 30) (lv' := [some (.inr (.inr (.inl (some (0))))), some (.inl n), none]) (st' := [.inr (.inr (.inl (some (0))))]) (h' := h) rfl ?_
      refine wq_gr (p' := 33) rfl rfl (congrArg Prod.fst (ly_k L 0 rfl)) rfl (ly_g L 0 0 1 rfl) ?_
      refine av_wp_seq 1 (pc' := 34) (lv' := [some (.inr (.inr (.inl (some (0))))), some (.inl n), none]) (st' := [.inl n, .inr (.inr (.inl (some (1))))]) (h' := h) rfl ?_
      refine wq_cv (p' := 37) (av_qc (.invokevirtual 82) 81 1 0 6) 2 cd_81 [.inl n] (1) 6 [some (.inr (.inr (.inl (some (1))))), some (.inl n)] rfl rfl rfl pp_81 rfl rfl rfl (congrArg Prod.fst (ly_k L 1 rfl)) rfl rfl rfl rfl ?_
      refine ct_81 C (FT_rf h) hl ql n (by omega) (fun h1 C1 F1 => ?_)
      show av_wp _ cd_98 37 [some (.inr (.inr (.inl (some (0))))), some (.inl n), none] [] h1 _
      refine av_wp_seq 1 (pc' := 38) (lv' := [some (.inr (.inr (.inl (some (0))))), some (.inl n), none]) (st' := [.inr (.inr (.inl (some (0))))]) (h' := h1) rfl ?_
      refine wq_gr (p' := 41) rfl rfl (congrArg Prod.fst (ly_k C1.1 0 rfl)) rfl (ly_g C1.1 0 4 24 rfl) ?_
      refine av_wp_seq 1 (pc' := 42) (lv' := [some (.inr (.inr (.inl (some (0))))), some (.inl n), none]) (st' := [.inl (1), .inr (.inr (.inl (some (24))))]) (h' := h1) rfl ?_
      refine wq_cv (p' := 45) (av_qc (.invokevirtual 113) 65 1 0 4) 4 cd_65 [.inl (1)] (24) 4 [some (.inr (.inr (.inl (some (24))))), some (.inl (1)), none, none] rfl rfl rfl pp_65 rfl rfl rfl (congrArg Prod.fst (ly_k C1.1 24 rfl)) rfl rfl rfl rfl ?_
      refine ct_65 C1 F1 ((1)) (by omega) (fun v h2 C2 F2 pv => ?_)
      show av_wp _ cd_98 45 [some (.inr (.inr (.inl (some (0))))), some (.inl n), none] [.inl v] h2 _
      refine av_wp_seq 2 (pc' := 47) (lv' := [some (.inr (.inr (.inl (some (0))))), some (.inl n), some (.inl v)]) (st' := [.inr (.inr (.inl (some (0))))]) (h' := h2) rfl ?_
      refine wq_cv (p' := 50) (av_qc (.invokevirtual 89) 99 0 0 7) 1 cd_99 [] (0) 7 [some (.inr (.inr (.inl (some (0)))))] rfl rfl rfl pp_99 rfl rfl rfl (congrArg Prod.fst (ly_k C2.1 0 rfl)) rfl rfl rfl rfl ?_
      refine ct_99 C2.1 C2 ?_
      show av_wp _ cd_98 50 [some (.inr (.inr (.inl (some (0))))), some (.inl n), some (.inl v)] [] (hwF (hwF h2 0 8 (rlA (hA h 2) n.toNat 1 (adv (hA h 2) n.toNat (0, 0, 0, -1)) (hA h 25)).2.1.2.2.2) 1 1 (0)) _
      refine av_wp_seq 1 (pc' := 51) (lv' := [some (.inr (.inr (.inl (some (0))))), some (.inl n), some (.inl v)]) (st' := [.inl v]) (h' := (hwF (hwF h2 0 8 (rlA (hA h 2) n.toNat 1 (adv (hA h 2) n.toNat (0, 0, 0, -1)) (hA h 25)).2.1.2.2.2) 1 1 (0))) rfl ?_
      refine wq_k1 (p' := 54) rfl rfl ⟨by omega, by omega⟩ (fun c7 => ?_) (fun c8 => ?_)
      · have c7 : v = (0) := c7
        refine av_wp_seq 1 (pc' := 72) (lv' := [some (.inr (.inr (.inl (some (0))))), some (.inl n), some (.inl v)]) (st' := [.inl (-1)]) (h' := (hwF (hwF h2 0 8 (rlA (hA h 2) n.toNat 1 (adv (hA h 2) n.toNat (0, 0, 0, -1)) (hA h 25)).2.1.2.2.2) 1 1 (0))) rfl ?_
        refine av_wp_ret (v := some (.inl (-1))) rfl rfl rfl ?_
        have q1 : FQ rdA2 nun1 (rdF2 5) nun2 h h2 0 0 := FQ_T F2 (Or.inl rfl) (Or.inr rfl) (fun _ => Or.inl rfl)
        have q2 := FQ_tr (FQ_tr q1 (FQ_wF (o := 0) (f := 8) (v := (rlA (hA h 2) n.toNat 1 (adv (hA h 2) n.toNat (0, 0, 0, -1)) (hA h 25)).2.1.2.2.2) (Or.inr (Or.inr (Or.inl ⟨rfl, rfl⟩))))) (FQ_wF (o := 1) (f := 1) (v := (0)) (Or.inl rfl))
        have k3 : KT (hwF (hwF h2 0 8 (rlA (hA h 2) n.toNat 1 (adv (hA h 2) n.toNat (0, 0, 0, -1)) (hA h 25)).2.1.2.2.2) 1 1 (0)) := KT_of (CT_wF0 (CT_wF0 C2 (Or.inl (by decide))) (Or.inr rfl)) (by show (0 : Int) ≤ 0 ∧ (0 : Int) ≤ 900; omega) hz (CX_fq hg q2 (fun j z => by unfold rdF2 at z; omega) (fun j z => z) (fun z => by unfold rdA2 at z; omega) x74)
        exact hq0 (by omega) (by omega) (by omega) (by omega) (hwF (hwF h2 0 8 (rlA (hA h 2) n.toNat 1 (adv (hA h 2) n.toNat (0, 0, 0, -1)) (hA h 25)).2.1.2.2.2) 1 1 (0)) q2 k3 rfl rfl ((F2.2.2.2.2.2.1 3 5 rfl).trans hkc)
      · have c8 : v ≠ (0) := c8
        refine av_wp_seq 1 (pc' := 55) (lv' := [some (.inr (.inr (.inl (some (0))))), some (.inl n), some (.inl v)]) (st' := [.inr (.inr (.inl (some (0))))]) (h' := (hwF (hwF h2 0 8 (rlA (hA h 2) n.toNat 1 (adv (hA h 2) n.toNat (0, 0, 0, -1)) (hA h 25)).2.1.2.2.2) 1 1 (0))) rfl ?_
        refine wq_gr (p' := 58) rfl rfl (congrArg Prod.fst (ly_k C2.1 0 rfl)) rfl (ly_g C2.1 0 1 3 rfl) ?_
        refine av_wp_seq 1 (pc' := 59) (lv' := [some (.inr (.inr (.inl (some (0))))), some (.inl n), some (.inl v)]) (st' := [.inr (.inr (.inl (some (0)))), .inr (.inr (.inl (some (3))))]) (h' := (hwF (hwF h2 0 8 (rlA (hA h 2) n.toNat 1 (adv (hA h 2) n.toNat (0, 0, 0, -1)) (hA h 25)).2.1.2.2.2) 1 1 (0))) rfl ?_
        refine wq_gr (p' := 62) rfl rfl (congrArg Prod.fst (ly_k C2.1 0 rfl)) rfl (ly_g C2.1 0 4 24 rfl) ?_
        refine wq_gr (p' := 65) rfl rfl (congrArg Prod.fst (ly_k C2.1 24 rfl)) rfl (ly_g C2.1 24 1 25 rfl) ?_
        refine wq_cv (p' := 68) (av_qc (.invokevirtual 127) 73 1 0 5) 2 cd_73 [.inr (.inr (.inl (some (25))))] (3) 5 [some (.inr (.inr (.inl (some (3))))), some (.inr (.inr (.inl (some (25)))))] rfl rfl rfl pp_73 rfl rfl rfl (congrArg Prod.fst (ly_k C2.1 3 rfl)) rfl rfl rfl rfl ?_
        refine ct_73 (h := (hwF (hwF h2 0 8 (rlA (hA h 2) n.toNat 1 (adv (hA h 2) n.toNat (0, 0, 0, -1)) (hA h 25)).2.1.2.2.2) 1 1 (0))) C2.1 (l := knt) (((F2.2.2.2.2.2.1 3 5 rfl).trans hkc)) (by omega) (by omega) (fun j => by rw [show hA (hwF (hwF h2 0 8 (rlA (hA h 2) n.toNat 1 (adv (hA h 2) n.toNat (0, 0, 0, -1)) (hA h 25)).2.1.2.2.2) 1 1 (0)) 25 = hA h2 25 from rfl, ct_d C2]; exact ct_dv C2 j) ?_
        show av_wp _ cd_98 68 [some (.inr (.inr (.inl (some (0))))), some (.inl n), some (.inl v)] [.inl knt] (hwF (hrw (hwF (hwF h2 0 8 (rlA (hA h 2) n.toNat 1 (adv (hA h 2) n.toNat (0, 0, 0, -1)) (hA h 25)).2.1.2.2.2) 1 1 (0)) (15 + Int.toNat knt) (plr (hA (hwF (hwF h2 0 8 (rlA (hA h 2) n.toNat 1 (adv (hA h 2) n.toNat (0, 0, 0, -1)) (hA h 25)).2.1.2.2.2) 1 1 (0)) (15 + Int.toNat knt)) (hA (hwF (hwF h2 0 8 (rlA (hA h 2) n.toNat 1 (adv (hA h 2) n.toNat (0, 0, 0, -1)) (hA h 25)).2.1.2.2.2) 1 1 (0)) 25))) 3 5 (knt + 1)) _
        refine av_wp_seq 1 (pc' := 72) (lv' := [some (.inr (.inr (.inl (some (0))))), some (.inl n), some (.inl v)]) (st' := [.inl knt]) (h' := (hwF (hrw (hwF (hwF h2 0 8 (rlA (hA h 2) n.toNat 1 (adv (hA h 2) n.toNat (0, 0, 0, -1)) (hA h 25)).2.1.2.2.2) 1 1 (0)) (15 + Int.toNat knt) (plr (hA (hwF (hwF h2 0 8 (rlA (hA h 2) n.toNat 1 (adv (hA h 2) n.toNat (0, 0, 0, -1)) (hA h 25)).2.1.2.2.2) 1 1 (0)) (15 + Int.toNat knt)) (hA (hwF (hwF h2 0 8 (rlA (hA h 2) n.toNat 1 (adv (hA h 2) n.toNat (0, 0, 0, -1)) (hA h 25)).2.1.2.2.2) 1 1 (0)) 25))) 3 5 (knt + 1))) rfl ?_
        refine av_wp_ret (v := some (.inl knt)) rfl rfl rfl ?_
        have q1 : FQ rdA2 nun1 (rdF2 5) nun2 h h2 0 0 := FQ_T F2 (Or.inl rfl) (Or.inr rfl) (fun _ => Or.inl rfl)
        have q2 := FQ_tr (FQ_tr q1 (FQ_wF (o := 0) (f := 8) (v := (rlA (hA h 2) n.toNat 1 (adv (hA h 2) n.toNat (0, 0, 0, -1)) (hA h 25)).2.1.2.2.2) (Or.inr (Or.inr (Or.inl ⟨rfl, rfl⟩))))) (FQ_wF (o := 1) (f := 1) (v := (0)) (Or.inl rfl))
        have q3 : FQ (lwA (15 + Int.toNat knt)) nun1 (rdF2 5) nun2 h (hwF (hrw (hwF (hwF h2 0 8 (rlA (hA h 2) n.toNat 1 (adv (hA h 2) n.toNat (0, 0, 0, -1)) (hA h 25)).2.1.2.2.2) 1 1 (0)) (15 + Int.toNat knt) (plr (hA (hwF (hwF h2 0 8 (rlA (hA h 2) n.toNat 1 (adv (hA h 2) n.toNat (0, 0, 0, -1)) (hA h 25)).2.1.2.2.2) 1 1 (0)) (15 + Int.toNat knt)) (hA (hwF (hwF h2 0 8 (rlA (hA h 2) n.toNat 1 (adv (hA h 2) n.toNat (0, 0, 0, -1)) (hA h 25)).2.1.2.2.2) 1 1 (0)) 25))) 3 5 (knt + 1)) 0 0 := FQ_tr (FQ_tr (rd_lw q2) (FQ_rw (Or.inr (Or.inr rfl)))) (FQ_wF (Or.inr (Or.inr (Or.inr ⟨rfl, rfl⟩))))
        have k3 : KT (hwF (hrw (hwF (hwF h2 0 8 (rlA (hA h 2) n.toNat 1 (adv (hA h 2) n.toNat (0, 0, 0, -1)) (hA h 25)).2.1.2.2.2) 1 1 (0)) (15 + Int.toNat knt) (plr (hA (hwF (hwF h2 0 8 (rlA (hA h 2) n.toNat 1 (adv (hA h 2) n.toNat (0, 0, 0, -1)) (hA h 25)).2.1.2.2.2) 1 1 (0)) (15 + Int.toNat knt)) (hA (hwF (hwF h2 0 8 (rlA (hA h 2) n.toNat 1 (adv (hA h 2) n.toNat (0, 0, 0, -1)) (hA h 25)).2.1.2.2.2) 1 1 (0)) 25))) 3 5 (knt + 1)) := KT_of (CT_wF0 (CT_rw (CT_wF0 (CT_wF0 C2 (Or.inl (by decide))) (Or.inr rfl)) (by omega) (by omega) (by omega)) (Or.inl (by decide))) (by show (0 : Int) ≤ 0 ∧ (0 : Int) ≤ 900; omega) hz (CX_fq hg q3 (fun j z => by unfold rdF2 at z; omega) (fun j z => z) (fun z => by unfold lwA at z; omega) x74)
        have ea : hA h2 (15 + Int.toNat knt) = hA h (15 + Int.toNat knt) := F2.2.2.2.2.2.2 _ (by omega) (by omega)
        have er : hA (hwF (hrw (hwF (hwF h2 0 8 (rlA (hA h 2) n.toNat 1 (adv (hA h 2) n.toNat (0, 0, 0, -1)) (hA h 25)).2.1.2.2.2) 1 1 (0)) (15 + Int.toNat knt) (plr (hA (hwF (hwF h2 0 8 (rlA (hA h 2) n.toNat 1 (adv (hA h 2) n.toNat (0, 0, 0, -1)) (hA h 25)).2.1.2.2.2) 1 1 (0)) (15 + Int.toNat knt)) (hA (hwF (hwF h2 0 8 (rlA (hA h 2) n.toNat 1 (adv (hA h 2) n.toNat (0, 0, 0, -1)) (hA h 25)).2.1.2.2.2) 1 1 (0)) 25))) 3 5 (knt + 1)) (15 + Int.toNat knt) = (plr (hA h (15 + Int.toNat knt)) (rlA (hA h 2) n.toNat 1 (adv (hA h 2) n.toNat (0, 0, 0, -1)) (hA h 25)).2.2) := by
          rw [← ea, ← ct_d C2]
          exact hrw_s
        exact hq1 (by omega) (by omega) (by omega) (by omega) (hwF (hrw (hwF (hwF h2 0 8 (rlA (hA h 2) n.toNat 1 (adv (hA h 2) n.toNat (0, 0, 0, -1)) (hA h 25)).2.1.2.2.2) 1 1 (0)) (15 + Int.toNat knt) (plr (hA (hwF (hwF h2 0 8 (rlA (hA h 2) n.toNat 1 (adv (hA h 2) n.toNat (0, 0, 0, -1)) (hA h 25)).2.1.2.2.2) 1 1 (0)) (15 + Int.toNat knt)) (hA (hwF (hwF h2 0 8 (rlA (hA h 2) n.toNat 1 (adv (hA h 2) n.toNat (0, 0, 0, -1)) (hA h 25)).2.1.2.2.2) 1 1 (0)) 25))) 3 5 (knt + 1)) q3 k3 rfl (show (rlA (hA h 2) n.toNat 1 (adv (hA h 2) n.toNat (0, 0, 0, -1)) (hA h 25)).2.1.2.2.2 = -1 by omega) rfl er (ct_dv C2)
    · have c6 : (6) ≤ knt := c6
      refine av_wp_seq 1 (pc' := 28) (lv' := [some (.inr (.inr (.inl (some (0))))), some (.inl n), none]) (st' := [.inl (-3)]) (h' := h) rfl ?_
      refine av_wp_ret (v := some (.inl (-3))) rfl rfl rfl ?_
      exact hqB (by omega) (by omega) (by omega)
  · have c4 : v1 = (0) := c4
    refine av_wp_seq 1 (pc' := 13) (lv' := [some (.inr (.inr (.inl (some (0))))), some (.inl n), none]) (st' := [.inl (-2)]) (h' := h) rfl ?_
    refine av_wp_ret (v := some (.inl (-2))) rfl rfl rfl ?_
    exact hqA (by omega)
