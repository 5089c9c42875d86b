/-! THE CLASS'S OPERATIONS -/
theorem wq_rs {sc : av_Sr} {cd : List (Nat × av_E)} {Q : Option av_V → av_H → Prop} {pc p' : Nat} {lv : av_L} {r : List av_V} {h : av_H} {o n k : Nat} {i : Int} {v : Option Nat} (hx : cd.lookup pc = some (av_q (.aastore))) (hp : pc + 1 = p') (hk : hK h o = (k, n)) (hkk : k = 30 ∨ k = 31) (hi : 0 ≤ i ∧ i < n ∧ (n : Int) < 2147483648) (hv : ∀ q, v = some q → (hK h q).1 = (if k = 30 then 1 else 5)) (hw : av_wp sc cd p' lv r (hwR h o i.toNat v) Q) : av_wp sc cd pc lv (.inr (.inr (.inl v)) :: .inl i :: .inr (.inr (.inl (some o))) :: r) h Q := by
  intro hg
  subst hp
  refine av_wp_st1 hx (pc' := pc + 1) (lv' := lv) (st' := r) (h' := hwR h o i.toNat v) rfl ?_ hw hg
  show av_aast pc lv (.inr (.inr (.inl v)) :: .inl i :: .inr (.inr (.inl (some o))) :: r) h = _
  have hk1 : (h.2.2.1 o).1 = k := by rw [show h.2.2.1 o = (k, n) from hk]
  have hk2 : (h.2.2.1 o).2 = n := by rw [show h.2.2.1 o = (k, n) from hk]
  have ho : o < h.1 := hg o (by rw [hk1]; omega)
  have hok : av_okR h o v = true := by
    cases v with
    | none => rfl
    | some q =>
      have h1 := hv q rfl
      have h1 : (h.2.2.1 q).1 = (if k = 30 then 1 else 5) := h1
      show decide (q < h.1 ∧ (h.2.2.1 q).1 = (if (h.2.2.1 o).1 = 30 then 1 else 5)) = true
      rw [hk1]
      refine decide_eq_true ⟨hg q (by rw [h1]; split <;> decide), h1⟩
  simp only [av_aast]
  rw [hk2, if_pos ⟨⟨ho, by rw [hk1]; exact hkk⟩, av_inO hi, hok⟩, av_rgw ⟨by omega, by omega⟩]
  rfl

set_option maxRecDepth 100000 in
set_option maxHeartbeats 4000000 in
theorem ct_99 {h : av_H} (L : LY h) {b r d : Nat → Int} {lim : Nat} {t : TT} (C : CT b lim t r d h) {Q : Option av_V → av_H → Prop} (hq : Q none (hwF (hwF h 0 8 t.2.2.2) 1 1 (0))) : av_wp none cd_99 0 [some (.inr (.inr (.inl (some (0)))))] [] h Q := by
  refine av_wp_seq 2 (pc' := 2) (lv' := [some (.inr (.inr (.inl (some (0)))))]) (st' := [.inr (.inr (.inl (some (0)))), .inr (.inr (.inl (some (0))))]) (h' := h) rfl ?_
  refine wq_gr (p' := 5) rfl rfl (congrArg Prod.fst (ly_k L 0 rfl)) rfl (ly_g L 0 0 1 rfl) ?_
  refine wq_gi (p' := 8) rfl rfl (congrArg Prod.fst (ly_k L 1 rfl)) rfl ((ct_w C)) ?_
  refine wq_pi (p' := 11) rfl rfl (congrArg Prod.fst (ly_k L 0 rfl)) rfl ?_
  refine av_wp_seq 1 (pc' := 12) (lv' := [some (.inr (.inr (.inl (some (0)))))]) (st' := [.inr (.inr (.inl (some (0))))]) (h' := (hwF h 0 8 t.2.2.2)) rfl ?_
  refine wq_gr (p' := 15) rfl rfl (congrArg Prod.fst (ly_k L 0 rfl)) rfl (ly_g L 0 0 1 rfl) ?_
  refine av_wp_seq 1 (pc' := 16) (lv' := [some (.inr (.inr (.inl (some (0)))))]) (st' := [.inl (0), .inr (.inr (.inl (some (1))))]) (h' := (hwF h 0 8 t.2.2.2)) rfl ?_
  refine wq_pi (p' := 19) rfl rfl (congrArg Prod.fst (ly_k L 1 rfl)) rfl ?_
  refine av_wp_ret (v := none) rfl rfl rfl ?_
  exact hq

set_option maxRecDepth 100000 in
set_option maxHeartbeats 4000000 in
theorem ct_71 {h : av_H} (L : LY h) {cnt : Int} (hc : hF h 3 3 = cnt) (hc0 : 0 ≤ cnt) (hc16 : cnt < 16) {t : Nat} (kt : hK h t = (1, 0)) {Q : Option av_V → av_H → Prop} (hq : Q (some (.inl cnt)) (hwF (hwR h 4 (Int.toNat cnt) (some t)) 3 3 (cnt + 1))) : av_wp none cd_71 0 [some (.inr (.inr (.inl (some (3))))), some (.inr (.inr (.inl (some (t)))))] [] h Q := by
  refine av_wp_seq 1 (pc' := 1) (lv' := [some (.inr (.inr (.inl (some (3))))), some (.inr (.inr (.inl (some (t)))))]) (st' := [.inr (.inr (.inl (some (3))))]) (h' := h) rfl ?_
  refine wq_gi (p' := 4) rfl rfl (congrArg Prod.fst (ly_k L 3 rfl)) rfl (hc) ?_
  refine av_wp_seq 1 (pc' := 6) (lv' := [some (.inr (.inr (.inl (some (3))))), some (.inr (.inr (.inl (some (t)))))]) (st' := [.inl (16), .inl cnt]) (h' := h) rfl ?_
  refine wq_k2 (p' := 9) rfl rfl ⟨by omega, by omega⟩ ⟨by omega, by omega⟩ (fun c1 => ?_) (fun c2 => ?_)
  · have c1 : cnt < (16) := c1
    refine av_wp_seq 1 (pc' := 12) (lv' := [some (.inr (.inr (.inl (some (3))))), some (.inr (.inr (.inl (some (t)))))]) (st' := [.inr (.inr (.inl (some (3))))]) (h' := h) rfl ?_
    refine wq_gr (p' := 15) rfl rfl (congrArg Prod.fst (ly_k L 3 rfl)) rfl (ly_g L 3 0 4 rfl) ?_
    refine av_wp_seq 1 (pc' := 16) (lv' := [some (.inr (.inr (.inl (some (3))))), some (.inr (.inr (.inl (some (t)))))]) (st' := [.inr (.inr (.inl (some (3)))), .inr (.inr (.inl (some (4))))]) (h' := h) rfl ?_
    refine wq_gi (p' := 19) rfl rfl (congrArg Prod.fst (ly_k L 3 rfl)) rfl (hc) ?_
    refine av_wp_seq 1 (pc' := 20) (lv' := [some (.inr (.inr (.inl (some (3))))), some (.inr (.inr (.inl (some (t)))))]) (st' := [.inr (.inr (.inl (some (t)))), .inl cnt, .inr (.inr (.inl (some (4))))]) (h' := h) rfl ?_
    refine wq_rs (p' := 21) (n := 16) rfl rfl (ly_k L 4 rfl) (Or.inl rfl) (by omega) (fun q hq => by cases hq; exact congrArg Prod.fst kt) ?_
    refine av_wp_seq 2 (pc' := 23) (lv' := [some (.inr (.inr (.inl (some (3))))), some (.inr (.inr (.inl (some (t)))))]) (st' := [.inr (.inr (.inl (some (3)))), .inr (.inr (.inl (some (3))))]) (h' := (hwR h 4 (Int.toNat (cnt)) (some t))) rfl ?_
    refine wq_gi (p' := 26) rfl rfl (congrArg Prod.fst (ly_k L 3 rfl)) rfl (hc) ?_
    refine av_wp_seq 2 (pc' := 28) (lv' := [some (.inr (.inr (.inl (some (3))))), some (.inr (.inr (.inl (some (t)))))]) (st' := [.inl (cnt + (1)), .inr (.inr (.inl (some (3))))]) (h' := (hwR h 4 (Int.toNat (cnt)) (some t))) rfl ?_
    refine wq_pi (p' := 31) rfl rfl (congrArg Prod.fst (ly_k L 3 rfl)) rfl ?_
    refine av_wp_seq 1 (pc' := 32) (lv' := [some (.inr (.inr (.inl (some (3))))), some (.inr (.inr (.inl (some (t)))))]) (st' := [.inr (.inr (.inl (some (3))))]) (h' := (hwF (hwR h 4 (Int.toNat (cnt)) (some t)) 3 3 (cnt + (1)))) rfl ?_
    refine wq_gi (p' := 35) rfl rfl (congrArg Prod.fst (ly_k L 3 rfl)) rfl (rfl) ?_
    refine av_wp_seq 2 (pc' := 37) (lv' := [some (.inr (.inr (.inl (some (3))))), some (.inr (.inr (.inl (some (t)))))]) (st' := [.inl ((cnt + (1)) - (1))]) (h' := (hwF (hwR h 4 (Int.toNat (cnt)) (some t)) 3 3 (cnt + (1)))) rfl ?_
    refine av_wp_ret (v := some (.inl ((cnt + (1)) - (1)))) rfl rfl rfl ?_
    rw [show cnt + 1 - 1 = cnt by omega]
    exact hq
  · have c2 : (16) ≤ cnt := c2
    exfalso; omega

/-- what is told laid over a row -/
def lov (f d : Nat → Int) (n : Nat) : Nat → Int := fun k => if k < n ∧ d k ≠ -2 then d k else f k
theorem lov_0 {f d : Nat → Int} : lov f d 0 = f := by
  funext k
  exact if_neg (by omega)
theorem lov_s1 {f d : Nat → Int} {n : Nat} (h : d n ≠ -2) : av_u1 (lov f d n) n (d n) = lov f d (n + 1) := by
  funext k
  unfold av_u1 lov
  by_cases e : k = n
  · subst e; rw [if_pos rfl, if_pos ⟨by omega, h⟩]
  · rw [if_neg e]
    by_cases c : k < n ∧ d k ≠ -2
    · rw [if_pos c, if_pos ⟨by omega, c.2⟩]
    · rw [if_neg c, if_neg (fun z => c ⟨by omega, z.2⟩)]
theorem lov_s0 {f d : Nat → Int} {n : Nat} (h : d n = -2) : lov f d n = lov f d (n + 1) := by
  funext k
  unfold lov
  by_cases e : k = n
  · subst e; rw [if_neg (by omega), if_neg (fun z => z.2 h)]
  · by_cases c : k < n ∧ d k ≠ -2
    · rw [if_pos c, if_pos ⟨by omega, c.2⟩]
    · rw [if_neg c, if_neg (fun z => c ⟨by omega, z.2⟩)]
/-- a row of numbers in a heap is f -/
def hrw (h : av_H) (a : Nat) (f : Nat → Int) : av_H := (h.1, h.2.1, h.2.2.1, av_u1 h.2.2.2.1 a f, h.2.2.2.2)
theorem hrw_w {h : av_H} {a j : Nat} {f : Nat → Int} {v : Int} : hwA (hrw h a f) a j v = hrw h a (av_u1 f j v) := by
  unfold hwA hrw
  have : av_u2 (av_u1 h.2.2.2.1 a f) a j v = av_u1 h.2.2.2.1 a (av_u1 f j v) := by
    funext q k
    unfold av_u2 av_u1
    by_cases e1 : q = a
    · by_cases e2 : k = j
      · rw [if_pos ⟨e1, e2⟩, if_pos e1, if_pos e2]
      · rw [if_neg (fun z => e2 z.2), if_pos e1, if_pos e1, if_neg e2]
    · rw [if_neg (fun z => e1 z.1), if_neg e1, if_neg e1]
  exact congrArg (fun A => ((h.1, h.2.1, h.2.2.1, A, h.2.2.2.2) : av_H)) this
theorem hrw_s {h : av_H} {a : Nat} {f : Nat → Int} : hA (hrw h a f) a = f := if_pos rfl
theorem hrw_o {h : av_H} {a q : Nat} {f : Nat → Int} (e : q ≠ a) : hA (hrw h a f) q = hA h q := if_neg e
theorem hrw_i {h : av_H} {a : Nat} : hrw h a (hA h a) = h := by
  unfold hrw
  have : av_u1 h.2.2.2.1 a (hA h a) = h.2.2.2.1 := by
    funext q
    unfold av_u1
    by_cases e : q = a
    · rw [if_pos e, e]
    · rw [if_neg e]
  rw [this]

set_option maxRecDepth 100000 in
set_option maxHeartbeats 4000000 in
theorem ct_74x {h : av_H} {a q : Nat} (ka : hK h a = (20, 14)) (kq : hK h q = (20, 14)) (haq : q ≠ a) (dv : ∀ j, -2 ≤ hA h q j ∧ hA h q j ≤ 999) {f : Nat → Int} {Q : Option av_V → av_H → Prop} (hq : Q none (hrw h a (lov f (hA h q) 14))) : av_wp none cd_74 0 [some (.inr (.inr (.inl (some a)))), some (.inr (.inr (.inl (some q)))), none] [] (hrw h a f) Q := by
  refine av_wp_seq 2 (pc' := 2) (lv' := [some (.inr (.inr (.inl (some a)))), some (.inr (.inr (.inl (some q)))), some (.inl (0))]) (st' := []) (h' := hrw h a f) rfl ?_
  have lp : ∀ (m k : Nat), k + m = 14 → av_wp none cd_74 2 [some (.inr (.inr (.inl (some a)))), some (.inr (.inr (.inl (some q)))), some (.inl (k : Int))] [] (hrw h a (lov f (hA h q) k)) Q := by
    intro m
    induction m with
    | zero =>
      intro k e
      have e : k = 14 := by omega
      subst e
      refine av_wp_seq 3 (pc' := 28) (lv' := [some (.inr (.inr (.inl (some a)))), some (.inr (.inr (.inl (some q)))), some (.inl ((14 : Nat) : Int))]) (st' := []) (h' := hrw h a (lov f (hA h q) 14)) rfl ?_
      exact av_wp_ret (v := none) rfl rfl rfl hq
    | succ m ih =>
      intro k e
      refine av_wp_seq 2 (pc' := 5) (lv' := [some (.inr (.inr (.inl (some a)))), some (.inr (.inr (.inl (some q)))), some (.inl (k : Int))]) (st' := [.inl (14), .inl (k : Int)]) (h' := hrw h a (lov f (hA h q) k)) rfl ?_
      refine wq_k2 (p' := 8) rfl rfl ⟨by omega, by omega⟩ ⟨by omega, by omega⟩ (fun c => absurd (show (14 : Int) ≤ (k : Int) from c) (by omega)) (fun _ => ?_)
      have hd : hA (hrw h a (lov f (hA h q) k)) q (Int.toNat (k : Int)) = hA h q k := congrFun (hrw_o haq) _
      have gd := dv k
      refine av_wp_seq 2 (pc' := 10) (lv' := [some (.inr (.inr (.inl (some a)))), some (.inr (.inr (.inl (some q)))), some (.inl (k : Int))]) (st' := [.inl (k : Int), .inr (.inr (.inl (some q)))]) (h' := hrw h a (lov f (hA h q) k)) rfl ?_
      refine wq_al (p' := 11) (n := 14) rfl rfl kq (by omega) hd ?_
      refine av_wp_seq 1 (pc' := 13) (lv' := [some (.inr (.inr (.inl (some a)))), some (.inr (.inr (.inl (some q)))), some (.inl (k : Int))]) (st' := [.inl (-2), .inl (hA h q k)]) (h' := hrw h a (lov f (hA h q) k)) rfl ?_
      refine wq_k2 (p' := 16) rfl rfl ⟨by omega, by omega⟩ ⟨by omega, by omega⟩ (fun c => ?_) (fun c => ?_)
      · have c : hA h q k = -2 := c
        rw [lov_s0 c]
        refine av_wp_seq 2 (pc' := 2) (lv' := [some (.inr (.inr (.inl (some a)))), some (.inr (.inr (.inl (some q)))), some (.inl ((k : Int) + 1))]) (st' := []) (h' := hrw h a (lov f (hA h q) (k + 1))) rfl ?_
        exact ih (k + 1) (by omega)
      · have c : hA h q k ≠ -2 := c
        refine av_wp_seq 4 (pc' := 20) (lv' := [some (.inr (.inr (.inl (some a)))), some (.inr (.inr (.inl (some q)))), some (.inl (k : Int))]) (st' := [.inl (k : Int), .inr (.inr (.inl (some q))), .inl (k : Int), .inr (.inr (.inl (some a)))]) (h' := hrw h a (lov f (hA h q) k)) rfl ?_
        refine wq_al (p' := 21) (n := 14) rfl rfl kq (by omega) hd ?_
        refine wq_as (p' := 22) (n := 14) rfl rfl ka (by omega) ?_
        rw [show Int.toNat (k : Int) = k from rfl, hrw_w, lov_s1 c]
        refine av_wp_seq 2 (pc' := 2) (lv' := [some (.inr (.inr (.inl (some a)))), some (.inr (.inr (.inl (some q)))), some (.inl ((k : Int) + 1))]) (st' := []) (h' := hrw h a (lov f (hA h q) (k + 1))) rfl ?_
        exact ih (k + 1) (by omega)
  have := lp 14 0 (by omega)
  rw [lov_0] at this
  exact this
