section
/-! THE CLASS'S OPERATIONS -/
theorem wq_rs {sc : av_Sr} {cd : List (Nat × av_E)} {Q : Option av_V → av_H → Prop} {pc p' : Nat} {lv : av_L} {r : List av_V} {h : av_H} {o n k : Nat} {i : Int} {v : Option Nat} (hx : cd.lookup pc = some (av_q (.aastore))) (hp : pc + 1 = p') (hk : hK h o = (k, n)) (hkk : k = 30 ∨ k = 31) (hi : 0 ≤ i ∧ i < n ∧ (n : Int) < 2147483648) (hv : ∀ q, v = some q → (hK h q).1 = (if k = 30 then 1 else 5)) (hw : av_wp sc cd p' lv r (hwR h o i.toNat v) Q) : av_wp sc cd pc lv (.inr (.inr (.inl v)) :: .inl i :: .inr (.inr (.inl (some o))) :: r) h Q := by
  intro hg
  subst hp
  refine av_wp_st1 hx (pc' := pc + 1) (lv' := lv) (st' := r) (h' := hwR h o i.toNat v) rfl ?_ hw hg
  show av_aast pc lv (.inr (.inr (.inl v)) :: .inl i :: .inr (.inr (.inl (some o))) :: r) h = _
  have hk1 : (h.2.2.1 o).1 = k := by rw [show h.2.2.1 o = (k, n) from hk]
  have hk2 : (h.2.2.1 o).2 = n := by rw [show h.2.2.1 o = (k, n) from hk]
  have ho : o < h.1 := hg o (by rw [hk1]; omega)
  have hok : av_okR h o v = true := by
    cases v with
    | none => rfl
    | some q =>
      have h1 := hv q rfl
      have h1 : (h.2.2.1 q).1 = (if k = 30 then 1 else 5) := h1
      show decide (q < h.1 ∧ (h.2.2.1 q).1 = (if (h.2.2.1 o).1 = 30 then 1 else 5)) = true
      rw [hk1]
      refine decide_eq_true ⟨hg q (by rw [h1]; split <;> decide), h1⟩
  simp only [av_aast]
  rw [hk2, if_pos ⟨⟨ho, by rw [hk1]; exact hkk⟩, av_inO hi, hok⟩, av_rgw ⟨by omega, by omega⟩]
  rfl

set_option maxRecDepth 100000 in
set_option maxHeartbeats 4000000 in
theorem ct_99 {h : av_H} (L : LY h) {b r d : Nat → Int} {lim : Nat} {t : TT} (C : CT b lim t r d h) {Q : Option av_V → av_H → Prop} (hq : Q none (hwF (hwF h 0 8 t.2.2.2) 1 1 (0))) : av_wp none cd_99 0 [some (.inr (.inr (.inl (some (0)))))] [] h Q := by
  refine av_wp_sqF ck_99 2 (pc' := 2) (lv' := [some (.inr (.inr (.inl (some (0)))))]) (st' := [.inr (.inr (.inl (some (0)))), .inr (.inr (.inl (some (0))))]) (h' := h) rfl ?_
  refine wq_gr (p' := 5) (ck_99 _ _ rfl) rfl (congrArg Prod.fst (ly_k L 0 rfl)) rfl (ly_g L 0 0 1 rfl) ?_
  refine wq_gi (p' := 8) (ck_99 _ _ rfl) rfl (congrArg Prod.fst (ly_k L 1 rfl)) rfl ((ct_w C)) ?_
  refine wq_pi (p' := 11) (ck_99 _ _ rfl) rfl (congrArg Prod.fst (ly_k L 0 rfl)) rfl ?_
  refine av_wp_sqF ck_99 1 (pc' := 12) (lv' := [some (.inr (.inr (.inl (some (0)))))]) (st' := [.inr (.inr (.inl (some (0))))]) (h' := (hwF h 0 8 t.2.2.2)) rfl ?_
  refine wq_gr (p' := 15) (ck_99 _ _ rfl) rfl (congrArg Prod.fst (ly_k L 0 rfl)) rfl (ly_g L 0 0 1 rfl) ?_
  refine av_wp_sqF ck_99 1 (pc' := 16) (lv' := [some (.inr (.inr (.inl (some (0)))))]) (st' := [.inl (0), .inr (.inr (.inl (some (1))))]) (h' := (hwF h 0 8 t.2.2.2)) rfl ?_
  refine wq_pi (p' := 19) (ck_99 _ _ rfl) rfl (congrArg Prod.fst (ly_k L 1 rfl)) rfl ?_
  refine av_wp_ret (v := none) (ck_99 _ _ rfl) rfl rfl ?_
  exact hq

set_option maxRecDepth 100000 in
set_option maxHeartbeats 4000000 in
theorem ct_71 {h : av_H} (L : LY h) {cnt : Int} (hc : hF h 3 3 = cnt) (hc0 : 0 ≤ cnt) (hc16 : cnt < 16) {t : Nat} (kt : hK h t = (1, 0)) {Q : Option av_V → av_H → Prop} (hq : Q (some (.inl cnt)) (hwF (hwR h 4 (Int.toNat cnt) (some t)) 3 3 (cnt + 1))) : av_wp none cd_71 0 [some (.inr (.inr (.inl (some (3))))), some (.inr (.inr (.inl (some (t)))))] [] h Q := by
  refine av_wp_sqF ck_71 1 (pc' := 1) (lv' := [some (.inr (.inr (.inl (some (3))))), some (.inr (.inr (.inl (some (t)))))]) (st' := [.inr (.inr (.inl (some (3))))]) (h' := h) rfl ?_
  refine wq_gi (p' := 4) (ck_71 _ _ rfl) rfl (congrArg Prod.fst (ly_k L 3 rfl)) rfl (hc) ?_
  refine av_wp_sqF ck_71 1 (pc' := 6) (lv' := [some (.inr (.inr (.inl (some (3))))), some (.inr (.inr (.inl (some (t)))))]) (st' := [.inl (16), .inl cnt]) (h' := h) rfl ?_
  refine wq_k2 (p' := 9) (ck_71 _ _ rfl) rfl ⟨by omega, by omega⟩ ⟨by omega, by omega⟩ (fun c1 => ?_) (fun c2 => ?_)
  · have c1 : cnt < (16) := c1
    refine av_wp_sqF ck_71 1 (pc' := 12) (lv' := [some (.inr (.inr (.inl (some (3))))), some (.inr (.inr (.inl (some (t)))))]) (st' := [.inr (.inr (.inl (some (3))))]) (h' := h) rfl ?_
    refine wq_gr (p' := 15) (ck_71 _ _ rfl) rfl (congrArg Prod.fst (ly_k L 3 rfl)) rfl (ly_g L 3 0 4 rfl) ?_
    refine av_wp_sqF ck_71 1 (pc' := 16) (lv' := [some (.inr (.inr (.inl (some (3))))), some (.inr (.inr (.inl (some (t)))))]) (st' := [.inr (.inr (.inl (some (3)))), .inr (.inr (.inl (some (4))))]) (h' := h) rfl ?_
    refine wq_gi (p' := 19) (ck_71 _ _ rfl) rfl (congrArg Prod.fst (ly_k L 3 rfl)) rfl (hc) ?_
    refine av_wp_sqF ck_71 1 (pc' := 20) (lv' := [some (.inr (.inr (.inl (some (3))))), some (.inr (.inr (.inl (some (t)))))]) (st' := [.inr (.inr (.inl (some (t)))), .inl cnt, .inr (.inr (.inl (some (4))))]) (h' := h) rfl ?_
    refine wq_rs (p' := 21) (n := 16) (ck_71 _ _ rfl) rfl (ly_k L 4 rfl) (Or.inl rfl) (by omega) (fun q hq => by cases hq; exact congrArg Prod.fst kt) ?_
    refine av_wp_sqF ck_71 2 (pc' := 23) (lv' := [some (.inr (.inr (.inl (some (3))))), some (.inr (.inr (.inl (some (t)))))]) (st' := [.inr (.inr (.inl (some (3)))), .inr (.inr (.inl (some (3))))]) (h' := (hwR h 4 (Int.toNat (cnt)) (some t))) rfl ?_
    refine wq_gi (p' := 26) (ck_71 _ _ rfl) rfl (congrArg Prod.fst (ly_k L 3 rfl)) rfl (hc) ?_
    refine av_wp_sqF ck_71 2 (pc' := 28) (lv' := [some (.inr (.inr (.inl (some (3))))), some (.inr (.inr (.inl (some (t)))))]) (st' := [.inl (cnt + (1)), .inr (.inr (.inl (some (3))))]) (h' := (hwR h 4 (Int.toNat (cnt)) (some t))) rfl ?_
    refine wq_pi (p' := 31) (ck_71 _ _ rfl) rfl (congrArg Prod.fst (ly_k L 3 rfl)) rfl ?_
    refine av_wp_sqF ck_71 1 (pc' := 32) (lv' := [some (.inr (.inr (.inl (some (3))))), some (.inr (.inr (.inl (some (t)))))]) (st' := [.inr (.inr (.inl (some (3))))]) (h' := (hwF (hwR h 4 (Int.toNat (cnt)) (some t)) 3 3 (cnt + (1)))) rfl ?_
    refine wq_gi (p' := 35) (ck_71 _ _ rfl) rfl (congrArg Prod.fst (ly_k L 3 rfl)) rfl (rfl) ?_
    refine av_wp_sqF ck_71 2 (pc' := 37) (lv' := [some (.inr (.inr (.inl (some (3))))), some (.inr (.inr (.inl (some (t)))))]) (st' := [.inl ((cnt + (1)) - (1))]) (h' := (hwF (hwR h 4 (Int.toNat (cnt)) (some t)) 3 3 (cnt + (1)))) rfl ?_
    refine av_wp_ret (v := some (.inl ((cnt + (1)) - (1)))) (ck_71 _ _ rfl) rfl rfl ?_
    rw [show cnt + 1 - 1 = cnt by omega]
    exact hq
  · have c2 : (16) ≤ cnt := c2
    exfalso; omega

/-- what is told laid over a row -/
def lov (f d : Nat → Int) (n : Nat) : Nat → Int := fun k => if k < n ∧ d k ≠ -2 then d k else f k
theorem lov_0 {f d : Nat → Int} : lov f d 0 = f := by
  funext k
  exact if_neg (by omega)
theorem lov_s1 {f d : Nat → Int} {n : Nat} (h : d n ≠ -2) : av_u1 (lov f d n) n (d n) = lov f d (n + 1) := by
  funext k
  unfold av_u1 lov
  by_cases e : k = n
  · subst e; rw [if_pos rfl, if_pos ⟨by omega, h⟩]
  · rw [if_neg e]
    by_cases c : k < n ∧ d k ≠ -2
    · rw [if_pos c, if_pos ⟨by omega, c.2⟩]
    · rw [if_neg c, if_neg (fun z => c ⟨by omega, z.2⟩)]
theorem lov_s0 {f d : Nat → Int} {n : Nat} (h : d n = -2) : lov f d n = lov f d (n + 1) := by
  funext k
  unfold lov
  by_cases e : k = n
  · subst e; rw [if_neg (by omega), if_neg (fun z => z.2 h)]
  · by_cases c : k < n ∧ d k ≠ -2
    · rw [if_pos c, if_pos ⟨by omega, c.2⟩]
    · rw [if_neg c, if_neg (fun z => c ⟨by omega, z.2⟩)]
/-- a row of numbers in a heap is f -/
def hrw (h : av_H) (a : Nat) (f : Nat → Int) : av_H := (h.1, h.2.1, h.2.2.1, av_u1 h.2.2.2.1 a f, h.2.2.2.2)
theorem hrw_w {h : av_H} {a j : Nat} {f : Nat → Int} {v : Int} : hwA (hrw h a f) a j v = hrw h a (av_u1 f j v) := by
  unfold hwA hrw
  have : av_u2 (av_u1 h.2.2.2.1 a f) a j v = av_u1 h.2.2.2.1 a (av_u1 f j v) := by
    funext q k
    unfold av_u2 av_u1
    by_cases e1 : q = a
    · by_cases e2 : k = j
      · rw [if_pos ⟨e1, e2⟩, if_pos e1, if_pos e2]
      · rw [if_neg (fun z => e2 z.2), if_pos e1, if_pos e1, if_neg e2]
    · rw [if_neg (fun z => e1 z.1), if_neg e1, if_neg e1]
  exact congrArg (fun A => ((h.1, h.2.1, h.2.2.1, A, h.2.2.2.2) : av_H)) this
theorem hrw_s {h : av_H} {a : Nat} {f : Nat → Int} : hA (hrw h a f) a = f := if_pos rfl
theorem hrw_o {h : av_H} {a q : Nat} {f : Nat → Int} (e : q ≠ a) : hA (hrw h a f) q = hA h q := if_neg e
set_option maxRecDepth 100000 in
set_option maxHeartbeats 4000000 in
theorem ct_74x {h : av_H} {a q : Nat} (ka : hK h a = (20, 14)) (kq : hK h q = (20, 14)) (haq : q ≠ a) (dv : ∀ j, -2 ≤ hA h q j ∧ hA h q j ≤ 999) {f : Nat → Int} {Q : Option av_V → av_H → Prop} (hq : Q none (hrw h a (lov f (hA h q) 14))) : av_wp none cd_74 0 [some (.inr (.inr (.inl (some a)))), some (.inr (.inr (.inl (some q)))), none] [] (hrw h a f) Q := by
  refine av_wp_sqF ck_74 2 (pc' := 2) (lv' := [some (.inr (.inr (.inl (some a)))), some (.inr (.inr (.inl (some q)))), some (.inl (0))]) (st' := []) (h' := hrw h a f) rfl ?_
  have lp : ∀ (m k : Nat), k + m = 14 → av_wp none cd_74 2 [some (.inr (.inr (.inl (some a)))), some (.inr (.inr (.inl (some q)))), some (.inl (k : Int))] [] (hrw h a (lov f (hA h q) k)) Q := by
    intro m
    induction m with
    | zero =>
      intro k e
      have e : k = 14 := by omega
      subst e
      refine av_wp_sqF ck_74 3 (pc' := 28) (lv' := [some (.inr (.inr (.inl (some a)))), some (.inr (.inr (.inl (some q)))), some (.inl ((14 : Nat) : Int))]) (st' := []) (h' := hrw h a (lov f (hA h q) 14)) rfl ?_
      exact av_wp_ret (v := none) rfl rfl rfl hq
    | succ m ih =>
      intro k e
      refine av_wp_sqF ck_74 2 (pc' := 5) (lv' := [some (.inr (.inr (.inl (some a)))), some (.inr (.inr (.inl (some q)))), some (.inl (k : Int))]) (st' := [.inl (14), .inl (k : Int)]) (h' := hrw h a (lov f (hA h q) k)) rfl ?_
      refine wq_k2 (p' := 8) (ck_74 _ _ rfl) rfl ⟨by omega, by omega⟩ ⟨by omega, by omega⟩ (fun c => absurd (show (14 : Int) ≤ (k : Int) from c) (by omega)) (fun _ => ?_)
      have hd : hA (hrw h a (lov f (hA h q) k)) q (Int.toNat (k : Int)) = hA h q k := congrFun (hrw_o haq) _
      have gd := dv k
      refine av_wp_sqF ck_74 2 (pc' := 10) (lv' := [some (.inr (.inr (.inl (some a)))), some (.inr (.inr (.inl (some q)))), some (.inl (k : Int))]) (st' := [.inl (k : Int), .inr (.inr (.inl (some q)))]) (h' := hrw h a (lov f (hA h q) k)) rfl ?_
      refine wq_al (p' := 11) (n := 14) (ck_74 _ _ rfl) rfl kq (by omega) hd ?_
      refine av_wp_sqF ck_74 1 (pc' := 13) (lv' := [some (.inr (.inr (.inl (some a)))), some (.inr (.inr (.inl (some q)))), some (.inl (k : Int))]) (st' := [.inl (-2), .inl (hA h q k)]) (h' := hrw h a (lov f (hA h q) k)) rfl ?_
      refine wq_k2 (p' := 16) (ck_74 _ _ rfl) rfl ⟨by omega, by omega⟩ ⟨by omega, by omega⟩ (fun c => ?_) (fun c => ?_)
      · have c : hA h q k = -2 := c
        rw [lov_s0 c]
        refine av_wp_sqF ck_74 2 (pc' := 2) (lv' := [some (.inr (.inr (.inl (some a)))), some (.inr (.inr (.inl (some q)))), some (.inl ((k : Int) + 1))]) (st' := []) (h' := hrw h a (lov f (hA h q) (k + 1))) rfl ?_
        exact ih (k + 1) (by omega)
      · have c : hA h q k ≠ -2 := c
        refine av_wp_sqF ck_74 4 (pc' := 20) (lv' := [some (.inr (.inr (.inl (some a)))), some (.inr (.inr (.inl (some q)))), some (.inl (k : Int))]) (st' := [.inl (k : Int), .inr (.inr (.inl (some q))), .inl (k : Int), .inr (.inr (.inl (some a)))]) (h' := hrw h a (lov f (hA h q) k)) rfl ?_
        refine wq_al (p' := 21) (n := 14) (ck_74 _ _ rfl) rfl kq (by omega) hd ?_
        refine wq_as (p' := 22) (n := 14) (ck_74 _ _ rfl) rfl ka (by omega) ?_
        rw [show Int.toNat (k : Int) = k from rfl, hrw_w, lov_s1 c]
        refine av_wp_sqF ck_74 2 (pc' := 2) (lv' := [some (.inr (.inr (.inl (some a)))), some (.inr (.inr (.inl (some q)))), some (.inl ((k : Int) + 1))]) (st' := []) (h' := hrw h a (lov f (hA h q) (k + 1))) rfl ?_
        exact ih (k + 1) (by omega)
  have := lp 14 0 (by omega)
  rw [lov_0] at this
  exact this
end
section
/-! HELP FOR THE OPERATIONS -/
section
variable {h : av_H} {b r d : Nat → Int} {lim : Nat} {t : TT}
theorem CT_wF0 {o f : Nat} {v : Int} (C : CT b lim t r d h) (e : o ≠ 1 ∨ f = 1) : CT b lim t r d (hwF h o f v) := by
  have k : ∀ j, 2 ≤ j → hF (hwF h o f v) 1 j = hF h 1 j := fun j hj => by
    show av_u2 h.2.2.2.2.1 o f v 1 j = _
    have hne : ¬ (1 = o ∧ j = f) := by omega
    rw [av_u2, if_neg hne]
  obtain ⟨c1, c2, c3, c4, c5, c6, c7, c8, c9⟩ := C
  exact ⟨c1, c2, c3, (k 2 (by omega)).trans c4, (k 3 (by omega)).trans c5, (k 4 (by omega)).trans c6, (k 5 (by omega)).trans c7, (k 6 (by omega)).trans c8, c9⟩
theorem LY_wR {o j : Nat} {v : Option Nat} (L : LY h) (e5 : o ≠ 5) (e14 : o ≠ 14) : LY (hwR h o j v) := ⟨L.1, L.2.1, fun i hi => by
  show av_u2 h.2.2.2.2.2.2.1 o j v 5 i = _
  rw [av_u2_ne (Ne.symm e5)]
  exact L.2.2.1 i hi, fun i hi => by
  show av_u2 h.2.2.2.2.2.2.1 o j v 14 i = _
  rw [av_u2_ne (Ne.symm e14)]
  exact L.2.2.2 i hi⟩
theorem CT_wR {o j : Nat} {v : Option Nat} (C : CT b lim t r d h) (e5 : o ≠ 5) (e14 : o ≠ 14) : CT b lim t r d (hwR h o j v) := ⟨LY_wR C.1 e5 e14, C.2⟩
theorem KT_of (C : CT b lim t r d h) (e : 0 ≤ hF h 1 1 ∧ hF h 1 1 ≤ 900) (z : ∀ j, 252 ≤ j → r j = 0) (x : CX h 74 76 0 (fun _ => 0)) : KT h := by
  refine ⟨⟨lim, t, ?_⟩, e, by rw [ct_r C]; exact z, x⟩
  rw [C.2.1, ct_r C, ct_d C]
  exact C
theorem CC_wF {o k : Nat} {x : Int} {v : Option Nat} {t c s : Nat} {f : Nat → Int} (ho : o < 122) (X : CC h v t c s f) : CC (hwF h o k x) v t c s f := by
  obtain ⟨y1, ⟨o1, o2, o3, o4, o5, o6⟩, y3, y4, y5, y6⟩ := X
  have e : ∀ j, hF (hwF h o k x) t j = hF h t j := fun j => by
    show av_u2 h.2.2.2.2.1 o k x t j = _
    rw [av_u2_ne (by omega)]
  exact ⟨y1, ⟨o1, (e 1).trans o2, (e 3).trans o3, o4, o5, o6⟩, y3, y4, y5, y6⟩
theorem CC_wR {o k : Nat} {x v : Option Nat} {t c s : Nat} {f : Nat → Int} (X : CC h v t c s f) : CC (hwR h o k x) v t c s f := X
theorem cpr_0 {c : Nat} {r : Nat → Int} : cpr h c 0 r = r := by
  funext j
  exact if_neg (by omega)
end
theorem CX_fq {eA eR : Nat → Prop} {eF eG : Nat → Nat → Prop} {g h : av_H} {n m t c s : Nat} {f : Nat → Int} (G : av_Gd g) (F : FQ eA eR eF eG g h n m) (nF : ∀ j, ¬ eF t j) (nG : ∀ j, ¬ eG t j) (nA : ¬ eA c) (x : CX g t c s f) : CX h t c s f := by
  obtain ⟨o1, o2, o3, o4, o5, o6⟩ := x
  have lt := F.2.2 t (gd_lt G o1 (by decide))
  have lc := F.2.2 c (gd_lt G o5 (by decide))
  exact ⟨lt.1.trans o1, (lt.2.2.2.2 1 (nF 1)).trans o2, (lt.2.2.2.2 3 (nF 3)).trans o3, (lt.2.1 0 (nG 0)).trans o4, lc.1.trans o5, (lc.2.2.1 nA).trans o6⟩
/-- what reading changes: the reader's rows, its fields, the fault; a count and its row -/
def rdA2 (a : Nat) : Prop := a = 23 ∨ a = 25
def rdF2 (x : Nat) (o f : Nat) : Prop := o = 1 ∨ o = 22 ∨ (o = 0 ∧ f = 8) ∨ (o = 3 ∧ f = x)
theorem FQ_35 {eA eR : Nat → Prop} {eF eG : Nat → Nat → Prop} {g h : av_H} (B : FB g h 0 0) (f : ∀ q k, q ≠ 1 → q ≠ 22 → hF h q k = hF g q k) (r : hR h = hR g) (a : ∀ q, q ≠ 23 → hA h q = hA g q) (h1 : eA 23) (h2 : ∀ j, eF 1 j ∧ eF 22 j) : FQ eA eR eF eG g h 0 0 := ⟨B.1, B.2.1, fun q hq => ⟨B.2.2.1 q hq, fun j _ => congrFun (B.2.2.2.2.2.1 q hq) j, fun e => a q (fun z => by subst z; exact e h1), fun _ => congrFun r q, fun j e => f q j (fun z => by subst z; exact e (h2 j).1) (fun z => by subst z; exact e (h2 j).2)⟩⟩
theorem co_nt {h : av_H} (x : CX h 74 76 0 (fun _ => 0)) : CO h 74 76 0 (cbv (fun _ => 0) 0) := cx_co x ⟨by omega, fun _ => by show (-1 : Int) ≤ 0 ∧ (0 : Int) ≤ 100000; omega, fun _ _ _ => by show (0 : Int) ≤ 16; omega, fun _ _ => by show (0 : Int) ≤ 2000; omega⟩ (Or.inr (Or.inl rfl))
theorem gd_of {h : av_H} {sc : av_Sr} {cd : List (Nat × av_E)} {pc : Nat} {lv : av_L} {st : List av_V} {Q : Option av_V → av_H → Prop} (k : av_Gd h → av_wp sc cd pc lv st h Q) : av_wp sc cd pc lv st h Q := fun hg => k hg hg
end
section
/-! THE CLASS READS: tell, more, law, clause -/
set_option maxRecDepth 100000 in
set_option maxHeartbeats 4000000 in
theorem ct_95 {h : av_H} (I : IC h) (K : KT h) (n : Int) (qn : -2147483648 ≤ n ∧ n ≤ 2147483647)  {Q : Option av_V → av_H → Prop} (hqA : (n < 0 ∨ hF h 1 1 < n) → Q (some (.inl (-2))) h) (hqB : 0 ≤ n → n ≤ hF h 1 1 → hF h 3 3 = 16 → Q (some (.inl (-3))) h) (hq0 : 0 ≤ n → n ≤ hF h 1 1 → hF h 3 3 < 16 → (rbA (hA h 2) n.toNat (hF h 3 3) 0 (adv (hA h 2) n.toNat (0, 0, 0, -1)) (hA h 23)).2.1.2.2.2 ≠ -1 → ∀ h', FQ rdA2 (fun q => q = 4) (rdF2 3) nun2 h h' 0 0 → KT h' → hF h' 1 1 = 0 → hF h' 0 8 = (rbA (hA h 2) n.toNat (hF h 3 3) 0 (adv (hA h 2) n.toNat (0, 0, 0, -1)) (hA h 23)).2.1.2.2.2 → hF h' 3 3 = hF h 3 3 → hR h' 4 = hR h 4 → hA h' 25 = hA h 25 → Q (some (.inl (-1))) h') (hq1 : 0 ≤ n → n ≤ hF h 1 1 → hF h 3 3 < 16 → (rbA (hA h 2) n.toNat (hF h 3 3) 0 (adv (hA h 2) n.toNat (0, 0, 0, -1)) (hA h 23)).2.1.2.2.2 = -1 → ∀ h' t c f, FQ rdA2 (fun q => q = 4) (rdF2 3) nun2 h h' 2 (4 + 21 * (rbA (hA h 2) n.toNat (hF h 3 3) 0 (adv (hA h 2) n.toNat (0, 0, 0, -1)) (hA h 23)).1) → KT h' → hF h' 1 1 = 0 → hF h' 0 8 = -1 → hF h' 3 3 = hF h 3 3 + 1 → hR h' 4 = av_u1 (hR h 4) (hF h 3 3).toNat (some t) → CC h' (some t) t c (rbA (hA h 2) n.toNat (hF h 3 3) 0 (adv (hA h 2) n.toNat (0, 0, 0, -1)) (hA h 23)).1 f → (∀ j, j < 21 * (rbA (hA h 2) n.toNat (hF h 3 3) 0 (adv (hA h 2) n.toNat (0, 0, 0, -1)) (hA h 23)).1 → f j = (rbA (hA h 2) n.toNat (hF h 3 3) 0 (adv (hA h 2) n.toNat (0, 0, 0, -1)) (hA h 23)).2.2 j) → hA h' 25 = hA h 25 → Q (some (.inl (hF h 3 3))) h') : av_wp none cd_95 0 [some (.inr (.inr (.inl (some (0))))), some (.inl n), none] [] h Q := by
  refine gd_of (fun hg => ?_)
  obtain ⟨⟨lim0, t0, C⟩, ql, hz, x74⟩ := K
  have L := I.1
  obtain ⟨len, hl⟩ : ∃ v, hF h 1 1 = v := ⟨_, rfl⟩
  rw [hl] at ql
  have cn := ic_cc I
  have ln := ic_lc I
  have kn := ic_kc I
  obtain ⟨cnt, hc⟩ : ∃ v, hF h 3 3 = v := ⟨_, rfl⟩
  obtain ⟨lnt, hlc⟩ : ∃ v, hF h 3 4 = v := ⟨_, rfl⟩
  obtain ⟨knt, hkc⟩ : ∃ v, hF h 3 5 = v := ⟨_, rfl⟩
  rw [hc] at cn
  rw [hlc] at ln
  rw [hkc] at kn
  rw [hl] at hqA
  rw [hl, hc] at hqB
  rw [hl, hc] at hq0 hq1
  refine av_wp_sqF ck_95 1 (pc' := 1) (lv' := [some (.inr (.inr (.inl (some (0))))), some (.inl n), none]) (st' := [.inr (.inr (.inl (some (0))))]) (h' := h) rfl ?_
  refine wq_gr (p' := 4) (ck_95 _ _ rfl) rfl (congrArg Prod.fst (ly_k L 0 rfl)) rfl (ly_g L 0 0 1 rfl) ?_
  refine av_wp_sqF ck_95 1 (pc' := 5) (lv' := [some (.inr (.inr (.inl (some (0))))), some (.inl n), none]) (st' := [.inl n, .inr (.inr (.inl (some (1))))]) (h' := h) rfl ?_
  refine wq_cv (p' := 8) (av_qc (.invokevirtual 75) 80 1 0 6) 2 cd_80 [.inl n] (1) 6 [some (.inr (.inr (.inl (some (1))))), some (.inl n)] (ck_95 _ _ rfl) rfl rfl pp_80 rfl rfl rfl (congrArg Prod.fst (ly_k L 1 rfl)) rfl rfl rfl rfl ?_
  refine ct_80 L hl ql n (by omega) (fun v1 p2 => ?_)
  show av_wp _ cd_95 8 [some (.inr (.inr (.inl (some (0))))), some (.inl n), none] [.inl v1] h _
  refine wq_k1 (p' := 11) (ck_95 _ _ rfl) rfl ⟨by omega, by omega⟩ (fun c3 => ?_) (fun c4 => ?_)
  · have c3 : v1 ≠ (0) := c3
    refine av_wp_sqF ck_95 1 (pc' := 15) (lv' := [some (.inr (.inr (.inl (some (0))))), some (.inl n), none]) (st' := [.inr (.inr (.inl (some (0))))]) (h' := h) rfl ?_
    refine wq_gr (p' := 18) (ck_95 _ _ rfl) rfl (congrArg Prod.fst (ly_k L 0 rfl)) rfl (ly_g L 0 1 3 rfl) ?_
    refine wq_gi (p' := 21) (ck_95 _ _ rfl) rfl (congrArg Prod.fst (ly_k L 3 rfl)) rfl (hc) ?_
    refine av_wp_sqF ck_95 1 (pc' := 23) (lv' := [some (.inr (.inr (.inl (some (0))))), some (.inl n), none]) (st' := [.inl (16), .inl cnt]) (h' := h) rfl ?_
    refine wq_k2 (p' := 26) (ck_95 _ _ rfl) rfl ⟨by omega, by omega⟩ ⟨by omega, by omega⟩ (fun c5 => ?_) (fun c6 => ?_)
    · have c5 : cnt < (16) := c5
      refine av_wp_sqF ck_95 1 (pc' := 30) (lv' := [some (.inr (.inr (.inl (some (0))))), some (.inl n), none]) (st' := [.inr (.inr (.inl (some (0))))]) (h' := h) rfl ?_
      refine wq_gr (p' := 33) (ck_95 _ _ rfl) rfl (congrArg Prod.fst (ly_k L 0 rfl)) rfl (ly_g L 0 0 1 rfl) ?_
      refine av_wp_sqF ck_95 1 (pc' := 34) (lv' := [some (.inr (.inr (.inl (some (0))))), some (.inl n), none]) (st' := [.inl n, .inr (.inr (.inl (some (1))))]) (h' := h) rfl ?_
      refine wq_cv (p' := 37) (av_qc (.invokevirtual 82) 81 1 0 6) 2 cd_81 [.inl n] (1) 6 [some (.inr (.inr (.inl (some (1))))), some (.inl n)] (ck_95 _ _ rfl) rfl rfl pp_81 rfl rfl rfl (congrArg Prod.fst (ly_k L 1 rfl)) rfl rfl rfl rfl ?_
      refine ct_81 C (FT_rf h) hl ql n (by omega) (fun h1 C1 F1 => ?_)
      show av_wp _ cd_95 37 [some (.inr (.inr (.inl (some (0))))), some (.inl n), none] [] h1 _
      refine av_wp_sqF ck_95 1 (pc' := 38) (lv' := [some (.inr (.inr (.inl (some (0))))), some (.inl n), none]) (st' := [.inr (.inr (.inl (some (0))))]) (h' := h1) rfl ?_
      refine wq_gr (p' := 41) (ck_95 _ _ rfl) rfl (congrArg Prod.fst (ly_k C1.1 0 rfl)) rfl (ly_g C1.1 0 3 22 rfl) ?_
      refine av_wp_sqF ck_95 1 (pc' := 42) (lv' := [some (.inr (.inr (.inl (some (0))))), some (.inl n), none]) (st' := [.inr (.inr (.inl (some (0)))), .inr (.inr (.inl (some (22))))]) (h' := h1) rfl ?_
      refine wq_gr (p' := 45) (ck_95 _ _ rfl) rfl (congrArg Prod.fst (ly_k C1.1 0 rfl)) rfl (ly_g C1.1 0 6 74 rfl) ?_
      refine av_wp_sqF ck_95 1 (pc' := 46) (lv' := [some (.inr (.inr (.inl (some (0))))), some (.inl n), none]) (st' := [.inr (.inr (.inl (some (0)))), .inr (.inr (.inl (some (74)))), .inr (.inr (.inl (some (22))))]) (h' := h1) rfl ?_
      refine wq_gr (p' := 49) (ck_95 _ _ rfl) rfl (congrArg Prod.fst (ly_k C1.1 0 rfl)) rfl (ly_g C1.1 0 1 3 rfl) ?_
      refine wq_gi (p' := 52) (ck_95 _ _ rfl) rfl (congrArg Prod.fst (ly_k C1.1 3 rfl)) rfl (((F1.2.2.2.2.2.1 3 3 rfl).trans hc)) ?_
      have x74b : CX h1 74 76 0 (fun _ => 0) := CX_fq hg (FQ_T (eA := rdA2) (eR := nun1) (eF := rdF2 3) (eG := nun2) F1 (Or.inl rfl) (Or.inr rfl) (fun _ => Or.inl rfl)) (fun j z => by unfold rdF2 at z; omega) (fun j z => z) (fun z => by unfold rdA2 at z; omega) x74
      have ec : cpr h1 76 0 (hA h 23) = hA h 23 := cpr_0
      rw [← ec] at hq0 hq1
      refine wq_cv (p' := 55) (av_qc (.invokevirtual 85) 35 2 0 2) 6 cd_35 [.inl cnt, .inr (.inr (.inl (some (74))))] (22) 2 [some (.inr (.inr (.inl (some (22))))), some (.inr (.inr (.inl (some (74))))), some (.inl cnt), none, none, none] (ck_95 _ _ rfl) rfl rfl pp_35 rfl rfl rfl (congrArg Prod.fst (ly_k C1.1 22 rfl)) rfl rfl rfl rfl ?_
      refine ct_35 C1 (co_nt x74b) (fun j hj => by omega) (fun q hq => by omega) hz (cnt) (by omega) (fun x0 h2 C2 B2 f2 l2 r2 a2 z2 => ?_) (fun x1 h5 h4 f C4 A4 C5 B4 f4 l4 r4 a4 z4 cx fv sd s1 fj l122 => ?_)
      · show av_wp _ cd_95 55 [some (.inr (.inr (.inl (some (0))))), some (.inl n), none] [.inr (.inr (.inl none))] h2 _
        refine av_wp_sqF ck_95 2 (pc' := 57) (lv' := [some (.inr (.inr (.inl (some (0))))), some (.inl n), some (.inr (.inr (.inl none)))]) (st' := [.inr (.inr (.inl (some (0))))]) (h' := h2) rfl ?_
        refine wq_cv (p' := 60) (av_qc (.invokevirtual 89) 99 0 0 7) 1 cd_99 [] (0) 7 [some (.inr (.inr (.inl (some (0)))))] (ck_95 _ _ rfl) rfl rfl pp_99 rfl rfl rfl (congrArg Prod.fst (ly_k C2.1 0 rfl)) rfl rfl rfl rfl ?_
        refine ct_99 C2.1 C2 ?_
        show av_wp _ cd_95 60 [some (.inr (.inr (.inl (some (0))))), some (.inl n), some (.inr (.inr (.inl none)))] [] (hwF (hwF h2 0 8 (rbA (hA h 2) n.toNat cnt 0 (adv (hA h 2) n.toNat (0, 0, 0, -1)) (cpr h1 76 0 (hA h 23))).2.1.2.2.2) 1 1 (0)) _
        refine av_wp_sqF ck_95 4 (pc' := 76) (lv' := [some (.inr (.inr (.inl (some (0))))), some (.inl n), some (.inr (.inr (.inl none)))]) (st' := [.inl (-1)]) (h' := (hwF (hwF h2 0 8 (rbA (hA h 2) n.toNat cnt 0 (adv (hA h 2) n.toNat (0, 0, 0, -1)) (cpr h1 76 0 (hA h 23))).2.1.2.2.2) 1 1 (0))) rfl ?_
        refine av_wp_ret (v := some (.inl (-1))) (ck_95 _ _ rfl) rfl rfl ?_
        have q1 : FQ rdA2 (fun q => q = 4) (rdF2 3) nun2 h h1 0 0 := FQ_T F1 (Or.inl rfl) (Or.inr rfl) (fun _ => Or.inl rfl)
        have q2 : FQ rdA2 (fun q => q = 4) (rdF2 3) nun2 h1 h2 0 0 := FQ_35 B2 f2 r2 a2 (Or.inl rfl) (fun _ => ⟨Or.inl rfl, Or.inr (Or.inl rfl)⟩)
        have q3 : FQ rdA2 (fun q => q = 4) (rdF2 3) nun2 h (hwF (hwF h2 0 8 (rbA (hA h 2) n.toNat cnt 0 (adv (hA h 2) n.toNat (0, 0, 0, -1)) (cpr h1 76 0 (hA h 23))).2.1.2.2.2) 1 1 (0)) 0 0 := FQ_tr (FQ_tr (FQ_tr q1 q2) (FQ_wF (Or.inr (Or.inr (Or.inl ⟨rfl, rfl⟩))))) (FQ_wF (Or.inl rfl))
        have k3 : KT (hwF (hwF h2 0 8 (rbA (hA h 2) n.toNat cnt 0 (adv (hA h 2) n.toNat (0, 0, 0, -1)) (cpr h1 76 0 (hA h 23))).2.1.2.2.2) 1 1 (0)) := KT_of (CT_wF0 (CT_wF0 C2 (Or.inl (by decide))) (Or.inr rfl)) (by show (0 : Int) ≤ 0 ∧ (0 : Int) ≤ 900; omega) z2 (CX_fq hg q3 (fun j z => by unfold rdF2 at z; omega) (fun j z => z) (fun z => by unfold rdA2 at z; omega) x74)
        exact hq0 (by omega) (by omega) (by omega) x0 (hwF (hwF h2 0 8 (rbA (hA h 2) n.toNat cnt 0 (adv (hA h 2) n.toNat (0, 0, 0, -1)) (cpr h1 76 0 (hA h 23))).2.1.2.2.2) 1 1 (0)) q3 k3 rfl rfl ((f2 3 3 (by decide) (by decide)).trans ((F1.2.2.2.2.2.1 3 3 rfl).trans hc)) ((congrFun r2 4).trans (congrFun F1.2.2.2.1 4)) ((a2 25 (by decide)).trans ((ct_d C1).trans (ct_d C).symm))
      · have f45 : ∀ q k, q ≠ 1 → q ≠ 22 → q < 122 → hF h5 q k = hF h1 q k := fun q k h1 h2 h3 => (congrFun (A4.2.2 q (by omega)).2.2.1 k).trans (f4 q k h1 h2)
        show av_wp _ cd_95 55 [some (.inr (.inr (.inl (some (0))))), some (.inl n), none] [.inr (.inr (.inl (some (h4.1))))] h5 _
        refine av_wp_sqF ck_95 2 (pc' := 57) (lv' := [some (.inr (.inr (.inl (some (0))))), some (.inl n), some (.inr (.inr (.inl (some (h4.1)))))]) (st' := [.inr (.inr (.inl (some (0))))]) (h' := h5) rfl ?_
        refine wq_cv (p' := 60) (av_qc (.invokevirtual 89) 99 0 0 7) 1 cd_99 [] (0) 7 [some (.inr (.inr (.inl (some (0)))))] (ck_95 _ _ rfl) rfl rfl pp_99 rfl rfl rfl (congrArg Prod.fst (ly_k C5.1 0 rfl)) rfl rfl rfl rfl ?_
        refine ct_99 C5.1 C5 ?_
        show av_wp _ cd_95 60 [some (.inr (.inr (.inl (some (0))))), some (.inl n), some (.inr (.inr (.inl (some (h4.1)))))] [] (hwF (hwF h5 0 8 (rbA (hA h 2) n.toNat cnt 0 (adv (hA h 2) n.toNat (0, 0, 0, -1)) (cpr h1 76 0 (hA h 23))).2.1.2.2.2) 1 1 (0)) _
        refine av_wp_sqF ck_95 3 (pc' := 69) (lv' := [some (.inr (.inr (.inl (some (0))))), some (.inl n), some (.inr (.inr (.inl (some (h4.1)))))]) (st' := [.inr (.inr (.inl (some (0))))]) (h' := (hwF (hwF h5 0 8 (rbA (hA h 2) n.toNat cnt 0 (adv (hA h 2) n.toNat (0, 0, 0, -1)) (cpr h1 76 0 (hA h 23))).2.1.2.2.2) 1 1 (0))) rfl ?_
        refine wq_gr (p' := 72) (ck_95 _ _ rfl) rfl (congrArg Prod.fst (ly_k C5.1 0 rfl)) rfl (ly_g C5.1 0 1 3 rfl) ?_
        refine av_wp_sqF ck_95 1 (pc' := 73) (lv' := [some (.inr (.inr (.inl (some (0))))), some (.inl n), some (.inr (.inr (.inl (some (h4.1)))))]) (st' := [.inr (.inr (.inl (some (h4.1)))), .inr (.inr (.inl (some (3))))]) (h' := (hwF (hwF h5 0 8 (rbA (hA h 2) n.toNat cnt 0 (adv (hA h 2) n.toNat (0, 0, 0, -1)) (cpr h1 76 0 (hA h 23))).2.1.2.2.2) 1 1 (0))) rfl ?_
        refine wq_cv (p' := 76) (av_qc (.invokevirtual 92) 71 1 0 5) 2 cd_71 [.inr (.inr (.inl (some (h4.1))))] (3) 5 [some (.inr (.inr (.inl (some (3))))), some (.inr (.inr (.inl (some (h4.1)))))] (ck_95 _ _ rfl) rfl rfl pp_71 rfl rfl rfl (congrArg Prod.fst (ly_k C5.1 3 rfl)) rfl rfl rfl rfl ?_
        refine ct_71 (h := (hwF (hwF h5 0 8 (rbA (hA h 2) n.toNat cnt 0 (adv (hA h 2) n.toNat (0, 0, 0, -1)) (cpr h1 76 0 (hA h 23))).2.1.2.2.2) 1 1 (0))) C5.1 (cnt := cnt) (((f45 3 3 (by decide) (by decide) (by omega)).trans ((F1.2.2.2.2.2.1 3 3 rfl).trans hc))) (by omega) (by omega) (t := h4.1) cx.1 ?_
        show av_wp _ cd_95 76 [some (.inr (.inr (.inl (some (0))))), some (.inl n), some (.inr (.inr (.inl (some (h4.1)))))] [.inl cnt] (hwF (hwR (hwF (hwF h5 0 8 (rbA (hA h 2) n.toNat cnt 0 (adv (hA h 2) n.toNat (0, 0, 0, -1)) (cpr h1 76 0 (hA h 23))).2.1.2.2.2) 1 1 (0)) 4 (Int.toNat cnt) (some h4.1)) 3 3 (cnt + 1)) _
        refine av_wp_ret (v := some (.inl cnt)) (ck_95 _ _ rfl) rfl rfl ?_
        have q1 : FQ rdA2 (fun q => q = 4) (rdF2 3) nun2 h h1 0 0 := FQ_T F1 (Or.inl rfl) (Or.inr rfl) (fun _ => Or.inl rfl)
        have q2 : FQ rdA2 (fun q => q = 4) (rdF2 3) nun2 h1 h4 0 0 := FQ_35 B4 f4 r4 a4 (Or.inl rfl) (fun _ => ⟨Or.inl rfl, Or.inr (Or.inl rfl)⟩)
        have q3 : FQ rdA2 (fun q => q = 4) (rdF2 3) nun2 h (hwF (hwR (hwF (hwF h5 0 8 (rbA (hA h 2) n.toNat cnt 0 (adv (hA h 2) n.toNat (0, 0, 0, -1)) (cpr h1 76 0 (hA h 23))).2.1.2.2.2) 1 1 (0)) 4 (Int.toNat cnt) (some h4.1)) 3 3 (cnt + 1)) 2 (4 + 21 * (rbA (hA h 2) n.toNat cnt 0 (adv (hA h 2) n.toNat (0, 0, 0, -1)) (cpr h1 76 0 (hA h 23))).1) := FQ_eq (FQ_tr (FQ_tr (FQ_tr (FQ_tr (FQ_tr (FQ_tr q1 q2) (FQ_al A4)) (FQ_wF (Or.inr (Or.inr (Or.inl ⟨rfl, rfl⟩))))) (FQ_wF (Or.inl rfl))) (FQ_wR rfl)) (FQ_wF (Or.inr (Or.inr (Or.inr ⟨rfl, rfl⟩))))) (by omega) (by omega)
        have k3 : KT (hwF (hwR (hwF (hwF h5 0 8 (rbA (hA h 2) n.toNat cnt 0 (adv (hA h 2) n.toNat (0, 0, 0, -1)) (cpr h1 76 0 (hA h 23))).2.1.2.2.2) 1 1 (0)) 4 (Int.toNat cnt) (some h4.1)) 3 3 (cnt + 1)) := KT_of (CT_wF0 (CT_wR (CT_wF0 (CT_wF0 C5 (Or.inl (by decide))) (Or.inr rfl)) (by decide) (by decide)) (Or.inl (by decide))) (by show (0 : Int) ≤ 0 ∧ (0 : Int) ≤ 900; omega) z4 (CX_fq hg q3 (fun j z => by unfold rdF2 at z; omega) (fun j z => z) (fun z => by unfold rdA2 at z; omega) x74)
        have er : hR h5 4 = hR h 4 := ((A4.2.2 4 (by omega)).2.2.2.2).trans ((congrFun r4 4).trans (congrFun F1.2.2.2.1 4))
        have er2 : hR (hwF (hwR (hwF (hwF h5 0 8 (rbA (hA h 2) n.toNat cnt 0 (adv (hA h 2) n.toNat (0, 0, 0, -1)) (cpr h1 76 0 (hA h 23))).2.1.2.2.2) 1 1 (0)) 4 (Int.toNat cnt) (some h4.1)) 3 3 (cnt + 1)) 4 = av_u1 (hR h 4) (Int.toNat cnt) (some h4.1) := by
          rw [← er]
          funext j
          show av_u2 h5.2.2.2.2.2.2.1 4 (Int.toNat cnt) (some h4.1) 4 j = av_u1 (hR h5 4) (Int.toNat cnt) (some h4.1) j
          unfold av_u2 av_u1
          by_cases e : j = Int.toNat cnt
          · rw [if_pos ⟨rfl, e⟩, if_pos e]
          · rw [if_neg (fun z => e z.2), if_neg e]
        have cc : CC (hwF (hwR (hwF (hwF h5 0 8 (rbA (hA h 2) n.toNat cnt 0 (adv (hA h 2) n.toNat (0, 0, 0, -1)) (cpr h1 76 0 (hA h 23))).2.1.2.2.2) 1 1 (0)) 4 (Int.toNat cnt) (some h4.1)) 3 3 (cnt + 1)) (some h4.1) h4.1 (h4.1 + 1) (rbA (hA h 2) n.toNat cnt 0 (adv (hA h 2) n.toNat (0, 0, 0, -1)) (cpr h1 76 0 (hA h 23))).1 f := CC_wF (by omega) (CC_wR (CC_wF (by omega) (CC_wF (by omega) ⟨rfl, cx, fv, sd, l122, by omega, s1⟩)))
        exact hq1 (by omega) (by omega) (by omega) x1 (hwF (hwR (hwF (hwF h5 0 8 (rbA (hA h 2) n.toNat cnt 0 (adv (hA h 2) n.toNat (0, 0, 0, -1)) (cpr h1 76 0 (hA h 23))).2.1.2.2.2) 1 1 (0)) 4 (Int.toNat cnt) (some h4.1)) 3 3 (cnt + 1)) h4.1 (h4.1 + 1) f q3 k3 rfl x1 rfl er2 cc fj (((A4.2.2 25 (by omega)).2.1).trans ((a4 25 (by decide)).trans ((ct_d C1).trans (ct_d C).symm)))
    · have c6 : (16) ≤ cnt := c6
      refine av_wp_sqF ck_95 1 (pc' := 28) (lv' := [some (.inr (.inr (.inl (some (0))))), some (.inl n), none]) (st' := [.inl (-3)]) (h' := h) rfl ?_
      refine av_wp_ret (v := some (.inl (-3))) (ck_95 _ _ rfl) rfl rfl ?_
      exact hqB (by omega) (by omega) (by omega)
  · have c4 : v1 = (0) := c4
    refine av_wp_sqF ck_95 1 (pc' := 13) (lv' := [some (.inr (.inr (.inl (some (0))))), some (.inl n), none]) (st' := [.inl (-2)]) (h' := h) rfl ?_
    refine av_wp_ret (v := some (.inl (-2))) (ck_95 _ _ rfl) rfl rfl ?_
    exact hqA (by omega)

set_option maxRecDepth 100000 in
set_option maxHeartbeats 4000000 in
theorem ct_69x {h : av_H} (L : LY h) {cnt : Int} (hc : hF h 3 3 = cnt) (qc : 0 ≤ cnt ∧ cnt ≤ 16) (k : Int) (qk : -2147483648 ≤ k ∧ k ≤ 2147483647) {Q : Option av_V → av_H → Prop} (hq0 : (k < 0 ∨ cnt ≤ k) → Q (some (.inr (.inr (.inl none)))) h) (hq1 : 0 ≤ k → k < cnt → Q (some (.inr (.inr (.inl (hR h 4 (Int.toNat k)))))) h) : av_wp none cd_69 0 [some (.inr (.inr (.inl (some (3))))), some (.inl k)] [] h Q := by
  refine av_wp_sqF ck_69 1 (pc' := 1) (lv' := [some (.inr (.inr (.inl (some (3))))), some (.inl k)]) (st' := [.inl k]) (h' := h) rfl ?_
  refine wq_k1 (p' := 4) (ck_69 _ _ rfl) rfl ⟨by omega, by omega⟩ (fun c1 => ?_) (fun c2 => ?_)
  · have c1 : k < (0) := c1
    refine av_wp_sqF ck_69 1 (pc' := 22) (lv' := [some (.inr (.inr (.inl (some (3))))), some (.inl k)]) (st' := [.inr (.inr (.inl none))]) (h' := h) rfl ?_
    refine av_wp_ret (v := some (.inr (.inr (.inl none)))) rfl rfl rfl ?_
    exact hq0 (by omega)
  · have c2 : (0) ≤ k := c2
    refine av_wp_sqF ck_69 2 (pc' := 6) (lv' := [some (.inr (.inr (.inl (some (3))))), some (.inl k)]) (st' := [.inr (.inr (.inl (some (3)))), .inl k]) (h' := h) rfl ?_
    refine wq_gi (p' := 9) (ck_69 _ _ rfl) rfl (congrArg Prod.fst (ly_k L 3 rfl)) rfl (hc) ?_
    refine wq_k2 (p' := 12) (ck_69 _ _ rfl) rfl ⟨by omega, by omega⟩ ⟨by omega, by omega⟩ (fun c3 => ?_) (fun c4 => ?_)
    · have c3 : cnt ≤ k := c3
      refine av_wp_sqF ck_69 1 (pc' := 22) (lv' := [some (.inr (.inr (.inl (some (3))))), some (.inl k)]) (st' := [.inr (.inr (.inl none))]) (h' := h) rfl ?_
      refine av_wp_ret (v := some (.inr (.inr (.inl none)))) rfl rfl rfl ?_
      exact hq0 (by omega)
    · have c4 : k < cnt := c4
      refine av_wp_sqF ck_69 1 (pc' := 13) (lv' := [some (.inr (.inr (.inl (some (3))))), some (.inl k)]) (st' := [.inr (.inr (.inl (some (3))))]) (h' := h) rfl ?_
      refine wq_gr (p' := 16) (ck_69 _ _ rfl) rfl (congrArg Prod.fst (ly_k L 3 rfl)) rfl (ly_g L 3 0 4 rfl) ?_
      refine av_wp_sqF ck_69 1 (pc' := 17) (lv' := [some (.inr (.inr (.inl (some (3))))), some (.inl k)]) (st' := [.inl k, .inr (.inr (.inl (some (4))))]) (h' := h) rfl ?_
      refine wq_ar (p' := 18) (n := 16) (k := 30) (ck_69 _ _ rfl) rfl (ly_k L 4 rfl) (Or.inl rfl) (by omega) rfl ?_
      refine av_wp_sqF ck_69 1 (pc' := 22) (lv' := [some (.inr (.inr (.inl (some (3))))), some (.inl k)]) (st' := [.inr (.inr (.inl (hR h 4 (Int.toNat k))))]) (h' := h) rfl ?_
      refine av_wp_ret (v := some (.inr (.inr (.inl (hR h 4 (Int.toNat k)))))) rfl rfl rfl ?_
      exact hq1 (by omega) (by omega)

set_option maxRecDepth 100000 in
set_option maxHeartbeats 4000000 in
theorem ct_46x {h : av_H} (L : LY h)  {Q : Option av_V → av_H → Prop} (hq : Q none (hfil h 27 0 144 (0))) : av_wp none cd_46 0 [some (.inr (.inr (.inl (some (26)))))] [] h Q := by
  refine av_wp_seq 1 (pc' := 1) (lv' := [some (.inr (.inr (.inl (some (26)))))]) (st' := [.inr (.inr (.inl (some (26))))]) (h' := h) rfl ?_
  refine wq_gr (p' := 4) rfl rfl (congrArg Prod.fst (ly_k L 26 rfl)) rfl (ly_g L 26 4 27 rfl) ?_
  refine av_wp_seq 1 (pc' := 5) (lv' := [some (.inr (.inr (.inl (some (26)))))]) (st' := [.inl (0), .inr (.inr (.inl (some (27))))]) (h' := h) rfl ?_
  refine wq_cs (p' := 8) (av_qc (.invokestatic 59) 220 2 2 10) 4 cd_220 [.inr (.inr (.inl (some (27)))), .inl (0)] [.inl (0), .inr (.inr (.inl (some (27))))] [some (.inr (.inr (.inl (some (27))))), some (.inl (0)), none, none] rfl rfl rfl pp_220 (fun _ => rfl) rfl rfl ?_
  refine ct_220 (n := 144) (ly_k L 27 rfl) (by omega) ?_
  show av_wp _ cd_46 8 [some (.inr (.inr (.inl (some (26)))))] [] (hfil h 27 0 144 (0)) _
  refine av_wp_ret (v := none) rfl rfl rfl ?_
  exact hq

theorem FQ_fil {eA eR : Nat → Prop} {eF eG : Nat → Nat → Prop} {h : av_H} {a lo hi : Nat} {v : Int} (e : eA a) : FQ eA eR eF eG h (hfil h a lo hi v) 0 0 := FQ_A (fun q hq => by
  funext j
  show (if q = a ∧ lo ≤ j ∧ j < hi then v else h.2.2.2.1 q j) = _
  rw [if_neg (fun z => by rw [z.1] at hq; exact hq e)])
theorem fil_o {h : av_H} {a lo hi q : Nat} {v : Int} (e : q ≠ a) : hA (hfil h a lo hi v) q = hA h q := by
  funext j
  show (if q = a ∧ lo ≤ j ∧ j < hi then v else h.2.2.2.1 q j) = _
  rw [if_neg (fun z => e z.1)]
theorem CT_fil {h : av_H} {b r d : Nat → Int} {lim : Nat} {t : TT} {lo hi : Nat} {v : Int} (C : CT b lim t r d h) : CT b lim t r d (hfil h 27 lo hi v) := by
  obtain ⟨c1, c2, c3, c4, c5, c6, c7, c8, c9, c10, c11⟩ := C
  exact ⟨c1, (fil_o (by decide)).trans c2, c3, c4, c5, c6, c7, c8, (fil_o (by decide)).trans c9, (fil_o (by decide)).trans c10, c11⟩
theorem CC_fil {h : av_H} {w : Option Nat} {t c s a lo hi : Nat} {v : Int} {f : Nat → Int} (ha : a < 122) (X : CC h w t c s f) : CC (hfil h a lo hi v) w t c s f := by
  obtain ⟨y1, ⟨o1, o2, o3, o4, o5, o6⟩, y3, y4, y5, y6, y7⟩ := X
  exact ⟨y1, ⟨o1, o2, o3, o4, o5, (fil_o (by omega)).trans o6⟩, y3, y4, y5, y6, y7⟩
def moA (a : Nat) : Prop := a = 23 ∨ a = 25 ∨ a = 27
theorem rd_mo {R : Nat → Prop} {x n m : Nat} {g h : av_H} (a : FQ rdA2 R (rdF2 x) nun2 g h n m) : FQ moA R (rdF2 x) nun2 g h n m := FQ_mo a (fun q e => by unfold rdA2 at e; unfold moA; omega) (fun _ e => e) (fun _ _ e => e) (fun _ _ e => e)

set_option maxRecDepth 100000 in
set_option maxHeartbeats 4000000 in
theorem ct_96 {h : av_H} (I : IC h) (K : KT h) (hcs : ∀ i : Nat, i < 16 → (i : Int) < hF h 3 3 → ∃ t c s f, CC h (hR h 4 i) t c s f) (k n : Int) (qk : -2147483648 ≤ k ∧ k ≤ 2147483647) (qn : -2147483648 ≤ n ∧ n ≤ 2147483647)  {Q : Option av_V → av_H → Prop} (hqA : (k < 0 ∨ hF h 3 3 ≤ k ∨ n < 0 ∨ hF h 1 1 < n) → Q (some (.inl (-2))) h) (hq0 : 0 ≤ k → k < hF h 3 3 → 0 ≤ n → n ≤ hF h 1 1 → ∀ ot oc os of, CC h (hR h 4 (Int.toNat k)) ot oc os of → (rbA (hA h 2) n.toNat k os (adv (hA h 2) n.toNat (0, 0, 0, -1)) (cpr h oc os (hA h 23))).2.1.2.2.2 ≠ -1 → ∀ h', FQ rdA2 (fun q => q = 4) (rdF2 3) nun2 h h' 0 0 → KT h' → hF h' 1 1 = 0 → hF h' 0 8 = (rbA (hA h 2) n.toNat k os (adv (hA h 2) n.toNat (0, 0, 0, -1)) (cpr h oc os (hA h 23))).2.1.2.2.2 → hF h' 3 3 = hF h 3 3 → hR h' 4 = hR h 4 → hA h' 25 = hA h 25 → Q (some (.inl (-1))) h') (hq1 : 0 ≤ k → k < hF h 3 3 → 0 ≤ n → n ≤ hF h 1 1 → ∀ ot oc os of, CC h (hR h 4 (Int.toNat k)) ot oc os of → (rbA (hA h 2) n.toNat k os (adv (hA h 2) n.toNat (0, 0, 0, -1)) (cpr h oc os (hA h 23))).2.1.2.2.2 = -1 → ∀ h' t c f, FQ moA (fun q => q = 4) (rdF2 3) nun2 h h' 2 (4 + 21 * (rbA (hA h 2) n.toNat k os (adv (hA h 2) n.toNat (0, 0, 0, -1)) (cpr h oc os (hA h 23))).1) → KT h' → hF h' 1 1 = 0 → hF h' 0 8 = -1 → hF h' 3 3 = hF h 3 3 → hR h' 4 = av_u1 (hR h 4) (Int.toNat k) (some t) → CC h' (some t) t c (rbA (hA h 2) n.toNat k os (adv (hA h 2) n.toNat (0, 0, 0, -1)) (cpr h oc os (hA h 23))).1 f → (∀ j, j < 21 * (rbA (hA h 2) n.toNat k os (adv (hA h 2) n.toNat (0, 0, 0, -1)) (cpr h oc os (hA h 23))).1 → f j = (rbA (hA h 2) n.toNat k os (adv (hA h 2) n.toNat (0, 0, 0, -1)) (cpr h oc os (hA h 23))).2.2 j) → hA h' 25 = hA h 25 → Q (some (.inl ((rbA (hA h 2) n.toNat k os (adv (hA h 2) n.toNat (0, 0, 0, -1)) (cpr h oc os (hA h 23))).1 : Int))) h') : av_wp none cd_96 0 [some (.inr (.inr (.inl (some (0))))), some (.inl k), some (.inl n), none, none] [] h Q := by
  refine gd_of (fun hg => ?_)
  obtain ⟨⟨lim0, t0, C⟩, ql, hz, x74⟩ := K
  have L := I.1
  obtain ⟨len, hl⟩ : ∃ v, hF h 1 1 = v := ⟨_, rfl⟩
  rw [hl] at ql
  have cn := ic_cc I
  have ln := ic_lc I
  have kn := ic_kc I
  obtain ⟨cnt, hc⟩ : ∃ v, hF h 3 3 = v := ⟨_, rfl⟩
  obtain ⟨lnt, hlc⟩ : ∃ v, hF h 3 4 = v := ⟨_, rfl⟩
  obtain ⟨knt, hkc⟩ : ∃ v, hF h 3 5 = v := ⟨_, rfl⟩
  rw [hc] at cn
  rw [hlc] at ln
  rw [hkc] at kn
  rw [hc] at hcs
  rw [hl, hc] at hqA
  rw [hl, hc] at hq0 hq1
  refine av_wp_sqF ck_96 1 (pc' := 1) (lv' := [some (.inr (.inr (.inl (some (0))))), some (.inl k), some (.inl n), none, none]) (st' := [.inr (.inr (.inl (some (0))))]) (h' := h) rfl ?_
  refine wq_gr (p' := 4) (ck_96 _ _ rfl) rfl (congrArg Prod.fst (ly_k L 0 rfl)) rfl (ly_g L 0 1 3 rfl) ?_
  refine av_wp_sqF ck_96 1 (pc' := 5) (lv' := [some (.inr (.inr (.inl (some (0))))), some (.inl k), some (.inl n), none, none]) (st' := [.inl k, .inr (.inr (.inl (some (3))))]) (h' := h) rfl ?_
  refine wq_cv (p' := 8) (av_qc (.invokevirtual 96) 69 1 0 5) 2 cd_69 [.inl k] (3) 5 [some (.inr (.inr (.inl (some (3))))), some (.inl k)] (ck_96 _ _ rfl) rfl rfl pp_69 rfl rfl rfl (congrArg Prod.fst (ly_k L 3 rfl)) rfl rfl rfl rfl ?_
  refine ct_69x L hc cn k (by omega) (fun z0 => ?_) (fun z1 z2 => ?_)
  · show av_wp _ cd_96 8 [some (.inr (.inr (.inl (some (0))))), some (.inl k), some (.inl n), none, none] [.inr (.inr (.inl none))] h _
    refine av_wp_sqF ck_96 4 (pc' := 26) (lv' := [some (.inr (.inr (.inl (some (0))))), some (.inl k), some (.inl n), some (.inr (.inr (.inl none))), none]) (st' := [.inl (-2)]) (h' := h) rfl ?_
    refine av_wp_ret (v := some (.inl (-2))) (ck_96 _ _ rfl) rfl rfl ?_
    exact hqA (by omega)
  · obtain ⟨ot, oc, os, of, occ⟩ := hcs (Int.toNat k) (by omega) (by omega)
    rw [occ.1]
    show av_wp _ cd_96 8 [some (.inr (.inr (.inl (some (0))))), some (.inl k), some (.inl n), none, none] [.inr (.inr (.inl (some (ot))))] h _
    refine av_wp_sqF ck_96 4 (pc' := 14) (lv' := [some (.inr (.inr (.inl (some (0))))), some (.inl k), some (.inl n), some (.inr (.inr (.inl (some (ot))))), none]) (st' := [.inr (.inr (.inl (some (0))))]) (h' := h) rfl ?_
    refine wq_gr (p' := 17) (ck_96 _ _ rfl) rfl (congrArg Prod.fst (ly_k L 0 rfl)) rfl (ly_g L 0 0 1 rfl) ?_
    refine av_wp_sqF ck_96 1 (pc' := 18) (lv' := [some (.inr (.inr (.inl (some (0))))), some (.inl k), some (.inl n), some (.inr (.inr (.inl (some (ot))))), none]) (st' := [.inl n, .inr (.inr (.inl (some (1))))]) (h' := h) rfl ?_
    refine wq_cv (p' := 21) (av_qc (.invokevirtual 75) 80 1 0 6) 2 cd_80 [.inl n] (1) 6 [some (.inr (.inr (.inl (some (1))))), some (.inl n)] (ck_96 _ _ rfl) rfl rfl pp_80 rfl rfl rfl (congrArg Prod.fst (ly_k L 1 rfl)) rfl rfl rfl rfl ?_
    refine ct_80 L hl ql n (by omega) (fun v1 p2 => ?_)
    show av_wp _ cd_96 21 [some (.inr (.inr (.inl (some (0))))), some (.inl k), some (.inl n), some (.inr (.inr (.inl (some (ot))))), none] [.inl v1] h _
    refine wq_k1 (p' := 24) (ck_96 _ _ rfl) rfl ⟨by omega, by omega⟩ (fun c3 => ?_) (fun c4 => ?_)
    · have c3 : v1 ≠ (0) := c3
      refine av_wp_sqF ck_96 1 (pc' := 28) (lv' := [some (.inr (.inr (.inl (some (0))))), some (.inl k), some (.inl n), some (.inr (.inr (.inl (some (ot))))), none]) (st' := [.inr (.inr (.inl (some (0))))]) (h' := h) rfl ?_
      refine wq_gr (p' := 31) (ck_96 _ _ rfl) rfl (congrArg Prod.fst (ly_k L 0 rfl)) rfl (ly_g L 0 0 1 rfl) ?_
      refine av_wp_sqF ck_96 1 (pc' := 32) (lv' := [some (.inr (.inr (.inl (some (0))))), some (.inl k), some (.inl n), some (.inr (.inr (.inl (some (ot))))), none]) (st' := [.inl n, .inr (.inr (.inl (some (1))))]) (h' := h) rfl ?_
      refine wq_cv (p' := 35) (av_qc (.invokevirtual 82) 81 1 0 6) 2 cd_81 [.inl n] (1) 6 [some (.inr (.inr (.inl (some (1))))), some (.inl n)] (ck_96 _ _ rfl) rfl rfl pp_81 rfl rfl rfl (congrArg Prod.fst (ly_k L 1 rfl)) rfl rfl rfl rfl ?_
      refine ct_81 C (FT_rf h) hl ql n (by omega) (fun h1 C1 F1 => ?_)
      show av_wp _ cd_96 35 [some (.inr (.inr (.inl (some (0))))), some (.inl k), some (.inl n), some (.inr (.inr (.inl (some (ot))))), none] [] h1 _
      refine av_wp_sqF ck_96 1 (pc' := 36) (lv' := [some (.inr (.inr (.inl (some (0))))), some (.inl k), some (.inl n), some (.inr (.inr (.inl (some (ot))))), none]) (st' := [.inr (.inr (.inl (some (0))))]) (h' := h1) rfl ?_
      refine wq_gr (p' := 39) (ck_96 _ _ rfl) rfl (congrArg Prod.fst (ly_k C1.1 0 rfl)) rfl (ly_g C1.1 0 3 22 rfl) ?_
      refine av_wp_sqF ck_96 2 (pc' := 41) (lv' := [some (.inr (.inr (.inl (some (0))))), some (.inl k), some (.inl n), some (.inr (.inr (.inl (some (ot))))), none]) (st' := [.inl k, .inr (.inr (.inl (some (ot)))), .inr (.inr (.inl (some (22))))]) (h' := h1) rfl ?_
      have q0 : FQ rdA2 (fun q => q = 4) (rdF2 3) nun2 h h1 0 0 := FQ_T F1 (Or.inl rfl) (Or.inr rfl) (fun _ => Or.inl rfl)
      have l1 := occ.2.2.2.2.1
      have l2 := occ.2.2.2.2.2.1
      have v0 := occ.2.2.1
      have d0 := occ.2.2.2.1
      have oX : CX h1 ot oc os of := CX_fq hg q0 (fun j z => by unfold rdF2 at z; omega) (fun j z => z) (fun z => by unfold rdA2 at z; omega) occ.2.1
      have ea : hA h1 oc = hA h oc := (oX.2.2.2.2.2).trans occ.2.1.2.2.2.2.2.symm
      have ec : cpr h1 oc os (hA h 23) = cpr h oc os (hA h 23) := by unfold cpr; rw [ea]
      have Hq0 := hq0 (by omega) (by omega) (by omega) (by omega) ot oc os of occ
      have Hq1 := hq1 (by omega) (by omega) (by omega) (by omega) ot oc os of occ
      clear hq0 hq1
      rw [← ec] at Hq0 Hq1
      refine wq_cv (p' := 44) (av_qc (.invokevirtual 85) 35 2 0 2) 6 cd_35 [.inl k, .inr (.inr (.inl (some (ot))))] (22) 2 [some (.inr (.inr (.inl (some (22))))), some (.inr (.inr (.inl (some (ot))))), some (.inl k), none, none, none] (ck_96 _ _ rfl) rfl rfl pp_35 rfl rfl rfl (congrArg Prod.fst (ly_k C1.1 22 rfl)) rfl rfl rfl rfl ?_
      refine ct_35 C1 (cx_co oX v0 (by omega)) (fun j hj h20 => by rw [oX.2.2.2.2.2, ctn_o h20]; exact v0.2.2.2 j h20) (fun q hq h2 => by rw [oX.2.2.2.2.2, ctn_o (by omega)] at h2; rw [oX.2.2.2.2.2, ctn_o (by omega)]; exact d0 q hq h2) hz (k) (by omega) (fun x0 h2 C2 B2 f2 l2 r2 a2 z2 => ?_) (fun x1 h5 h4 f C4 A4 C5 B4 f4 l4 r4 a4 z4 cx fv sd s1 fj l122 => ?_)
      · show av_wp _ cd_96 44 [some (.inr (.inr (.inl (some (0))))), some (.inl k), some (.inl n), some (.inr (.inr (.inl (some (ot))))), none] [.inr (.inr (.inl none))] h2 _
        refine av_wp_sqF ck_96 2 (pc' := 47) (lv' := [some (.inr (.inr (.inl (some (0))))), some (.inl k), some (.inl n), some (.inr (.inr (.inl (some (ot))))), some (.inr (.inr (.inl none)))]) (st' := [.inr (.inr (.inl (some (0))))]) (h' := h2) rfl ?_
        refine wq_cv (p' := 50) (av_qc (.invokevirtual 89) 99 0 0 7) 1 cd_99 [] (0) 7 [some (.inr (.inr (.inl (some (0)))))] (ck_96 _ _ rfl) rfl rfl pp_99 rfl rfl rfl (congrArg Prod.fst (ly_k C2.1 0 rfl)) rfl rfl rfl rfl ?_
        refine ct_99 C2.1 C2 ?_
        show av_wp _ cd_96 50 [some (.inr (.inr (.inl (some (0))))), some (.inl k), some (.inl n), some (.inr (.inr (.inl (some (ot))))), some (.inr (.inr (.inl none)))] [] (hwF (hwF h2 0 8 (rbA (hA h 2) n.toNat k os (adv (hA h 2) n.toNat (0, 0, 0, -1)) (cpr h1 oc os (hA h 23))).2.1.2.2.2) 1 1 (0)) _
        refine av_wp_sqF ck_96 3 (pc' := 56) (lv' := [some (.inr (.inr (.inl (some (0))))), some (.inl k), some (.inl n), some (.inr (.inr (.inl (some (ot))))), some (.inr (.inr (.inl none)))]) (st' := [.inl (-1)]) (h' := (hwF (hwF h2 0 8 (rbA (hA h 2) n.toNat k os (adv (hA h 2) n.toNat (0, 0, 0, -1)) (cpr h1 oc os (hA h 23))).2.1.2.2.2) 1 1 (0))) rfl ?_
        refine av_wp_ret (v := some (.inl (-1))) (ck_96 _ _ rfl) rfl rfl ?_
        have q1 := q0
        have q2 : FQ rdA2 (fun q => q = 4) (rdF2 3) nun2 h1 h2 0 0 := FQ_35 B2 f2 r2 a2 (Or.inl rfl) (fun _ => ⟨Or.inl rfl, Or.inr (Or.inl rfl)⟩)
        have q3 : FQ rdA2 (fun q => q = 4) (rdF2 3) nun2 h (hwF (hwF h2 0 8 (rbA (hA h 2) n.toNat k os (adv (hA h 2) n.toNat (0, 0, 0, -1)) (cpr h1 oc os (hA h 23))).2.1.2.2.2) 1 1 (0)) 0 0 := FQ_tr (FQ_tr (FQ_tr q1 q2) (FQ_wF (Or.inr (Or.inr (Or.inl ⟨rfl, rfl⟩))))) (FQ_wF (Or.inl rfl))
        have k3 : KT (hwF (hwF h2 0 8 (rbA (hA h 2) n.toNat k os (adv (hA h 2) n.toNat (0, 0, 0, -1)) (cpr h1 oc os (hA h 23))).2.1.2.2.2) 1 1 (0)) := KT_of (CT_wF0 (CT_wF0 C2 (Or.inl (by decide))) (Or.inr rfl)) (by show (0 : Int) ≤ 0 ∧ (0 : Int) ≤ 900; omega) z2 (CX_fq hg q3 (fun j z => by unfold rdF2 at z; omega) (fun j z => z) (fun z => by unfold rdA2 at z; omega) x74)
        exact Hq0 x0 (hwF (hwF h2 0 8 (rbA (hA h 2) n.toNat k os (adv (hA h 2) n.toNat (0, 0, 0, -1)) (cpr h1 oc os (hA h 23))).2.1.2.2.2) 1 1 (0)) q3 k3 rfl rfl ((f2 3 3 (by decide) (by decide)).trans ((F1.2.2.2.2.2.1 3 3 rfl).trans hc)) ((congrFun r2 4).trans (congrFun F1.2.2.2.1 4)) ((a2 25 (by decide)).trans ((ct_d C1).trans (ct_d C).symm))
      · have f45 : ∀ q k, q ≠ 1 → q ≠ 22 → q < 122 → hF h5 q k = hF h1 q k := fun q k h1 h2 h3 => (congrFun (A4.2.2 q (by omega)).2.2.1 k).trans (f4 q k h1 h2)
        show av_wp _ cd_96 44 [some (.inr (.inr (.inl (some (0))))), some (.inl k), some (.inl n), some (.inr (.inr (.inl (some (ot))))), none] [.inr (.inr (.inl (some (h4.1))))] h5 _
        refine av_wp_sqF ck_96 2 (pc' := 47) (lv' := [some (.inr (.inr (.inl (some (0))))), some (.inl k), some (.inl n), some (.inr (.inr (.inl (some (ot))))), some (.inr (.inr (.inl (some (h4.1)))))]) (st' := [.inr (.inr (.inl (some (0))))]) (h' := h5) rfl ?_
        refine wq_cv (p' := 50) (av_qc (.invokevirtual 89) 99 0 0 7) 1 cd_99 [] (0) 7 [some (.inr (.inr (.inl (some (0)))))] (ck_96 _ _ rfl) rfl rfl pp_99 rfl rfl rfl (congrArg Prod.fst (ly_k C5.1 0 rfl)) rfl rfl rfl rfl ?_
        refine ct_99 C5.1 C5 ?_
        show av_wp _ cd_96 50 [some (.inr (.inr (.inl (some (0))))), some (.inl k), some (.inl n), some (.inr (.inr (.inl (some (ot))))), some (.inr (.inr (.inl (some (h4.1)))))] [] (hwF (hwF h5 0 8 (rbA (hA h 2) n.toNat k os (adv (hA h 2) n.toNat (0, 0, 0, -1)) (cpr h1 oc os (hA h 23))).2.1.2.2.2) 1 1 (0)) _
        refine av_wp_sqF ck_96 3 (pc' := 58) (lv' := [some (.inr (.inr (.inl (some (0))))), some (.inl k), some (.inl n), some (.inr (.inr (.inl (some (ot))))), some (.inr (.inr (.inl (some (h4.1)))))]) (st' := [.inr (.inr (.inl (some (0))))]) (h' := (hwF (hwF h5 0 8 (rbA (hA h 2) n.toNat k os (adv (hA h 2) n.toNat (0, 0, 0, -1)) (cpr h1 oc os (hA h 23))).2.1.2.2.2) 1 1 (0))) rfl ?_
        refine wq_gr (p' := 61) (ck_96 _ _ rfl) rfl (congrArg Prod.fst (ly_k C5.1 0 rfl)) rfl (ly_g C5.1 0 1 3 rfl) ?_
        refine wq_gr (p' := 64) (ck_96 _ _ rfl) rfl (congrArg Prod.fst (ly_k C5.1 3 rfl)) rfl (ly_g C5.1 3 0 4 rfl) ?_
        refine av_wp_sqF ck_96 2 (pc' := 67) (lv' := [some (.inr (.inr (.inl (some (0))))), some (.inl k), some (.inl n), some (.inr (.inr (.inl (some (ot))))), some (.inr (.inr (.inl (some (h4.1)))))]) (st' := [.inr (.inr (.inl (some (h4.1)))), .inl k, .inr (.inr (.inl (some (4))))]) (h' := (hwF (hwF h5 0 8 (rbA (hA h 2) n.toNat k os (adv (hA h 2) n.toNat (0, 0, 0, -1)) (cpr h1 oc os (hA h 23))).2.1.2.2.2) 1 1 (0))) rfl ?_
        refine wq_rs (p' := 68) (n := 16) (ck_96 _ _ rfl) rfl (ly_k C5.1 4 rfl) (Or.inl rfl) (by omega) (fun q hq => by cases hq; exact congrArg Prod.fst cx.1) ?_
        refine av_wp_sqF ck_96 1 (pc' := 69) (lv' := [some (.inr (.inr (.inl (some (0))))), some (.inl k), some (.inl n), some (.inr (.inr (.inl (some (ot))))), some (.inr (.inr (.inl (some (h4.1)))))]) (st' := [.inr (.inr (.inl (some (0))))]) (h' := (hwR (hwF (hwF h5 0 8 (rbA (hA h 2) n.toNat k os (adv (hA h 2) n.toNat (0, 0, 0, -1)) (cpr h1 oc os (hA h 23))).2.1.2.2.2) 1 1 (0)) 4 (Int.toNat k) (some h4.1))) rfl ?_
        refine wq_gr (p' := 72) (ck_96 _ _ rfl) rfl (congrArg Prod.fst (ly_k C5.1 0 rfl)) rfl (ly_g C5.1 0 5 26 rfl) ?_
        refine wq_cv (p' := 75) (av_qc (.invokevirtual 104) 46 0 0 3) 1 cd_46 [] (26) 3 [some (.inr (.inr (.inl (some (26)))))] (ck_96 _ _ rfl) rfl rfl pp_46 rfl rfl rfl (congrArg Prod.fst (ly_k C5.1 26 rfl)) rfl rfl rfl rfl ?_
        refine ct_46x (h := (hwR (hwF (hwF h5 0 8 (rbA (hA h 2) n.toNat k os (adv (hA h 2) n.toNat (0, 0, 0, -1)) (cpr h1 oc os (hA h 23))).2.1.2.2.2) 1 1 (0)) 4 (Int.toNat k) (some h4.1))) (LY_wR C5.1 (by decide) (by decide)) ?_
        show av_wp _ cd_96 75 [some (.inr (.inr (.inl (some (0))))), some (.inl k), some (.inl n), some (.inr (.inr (.inl (some (ot))))), some (.inr (.inr (.inl (some (h4.1)))))] [] (hfil (hwR (hwF (hwF h5 0 8 (rbA (hA h 2) n.toNat k os (adv (hA h 2) n.toNat (0, 0, 0, -1)) (cpr h1 oc os (hA h 23))).2.1.2.2.2) 1 1 (0)) 4 (Int.toNat k) (some h4.1)) 27 0 144 (0)) _
        refine av_wp_sqF ck_96 1 (pc' := 77) (lv' := [some (.inr (.inr (.inl (some (0))))), some (.inl k), some (.inl n), some (.inr (.inr (.inl (some (ot))))), some (.inr (.inr (.inl (some (h4.1)))))]) (st' := [.inr (.inr (.inl (some (h4.1))))]) (h' := (hfil (hwR (hwF (hwF h5 0 8 (rbA (hA h 2) n.toNat k os (adv (hA h 2) n.toNat (0, 0, 0, -1)) (cpr h1 oc os (hA h 23))).2.1.2.2.2) 1 1 (0)) 4 (Int.toNat k) (some h4.1)) 27 0 144 (0))) rfl ?_
        have cc : CC (hfil (hwR (hwF (hwF h5 0 8 (rbA (hA h 2) n.toNat k os (adv (hA h 2) n.toNat (0, 0, 0, -1)) (cpr h1 oc os (hA h 23))).2.1.2.2.2) 1 1 (0)) 4 (Int.toNat k) (some h4.1)) 27 0 144 (0)) (some h4.1) h4.1 (h4.1 + 1) (rbA (hA h 2) n.toNat k os (adv (hA h 2) n.toNat (0, 0, 0, -1)) (cpr h1 oc os (hA h 23))).1 f := CC_fil (by omega) (CC_wR (CC_wF (by omega) (CC_wF (by omega) ⟨rfl, cx, fv, sd, l122, by omega, s1⟩)))
        refine wq_gi (p' := 80) (v := ((rbA (hA h 2) n.toNat k os (adv (hA h 2) n.toNat (0, 0, 0, -1)) (cpr h1 oc os (hA h 23))).1 : Int)) rfl rfl (congrArg Prod.fst cc.2.1.1) rfl cc.2.1.2.1 ?_
        refine av_wp_ret (v := some (.inl ((rbA (hA h 2) n.toNat k os (adv (hA h 2) n.toNat (0, 0, 0, -1)) (cpr h1 oc os (hA h 23))).1 : Int))) (ck_96 _ _ rfl) rfl rfl ?_
        have q1 := q0
        have q2 : FQ rdA2 (fun q => q = 4) (rdF2 3) nun2 h1 h4 0 0 := FQ_35 B4 f4 r4 a4 (Or.inl rfl) (fun _ => ⟨Or.inl rfl, Or.inr (Or.inl rfl)⟩)
        have q3 : FQ moA (fun q => q = 4) (rdF2 3) nun2 h (hfil (hwR (hwF (hwF h5 0 8 (rbA (hA h 2) n.toNat k os (adv (hA h 2) n.toNat (0, 0, 0, -1)) (cpr h1 oc os (hA h 23))).2.1.2.2.2) 1 1 (0)) 4 (Int.toNat k) (some h4.1)) 27 0 144 (0)) 2 (4 + 21 * (rbA (hA h 2) n.toNat k os (adv (hA h 2) n.toNat (0, 0, 0, -1)) (cpr h1 oc os (hA h 23))).1) := FQ_eq (FQ_tr (FQ_tr (FQ_tr (FQ_tr (FQ_tr (rd_mo (FQ_tr q1 q2)) (FQ_al A4)) (FQ_wF (Or.inr (Or.inr (Or.inl ⟨rfl, rfl⟩))))) (FQ_wF (Or.inl rfl))) (FQ_wR rfl)) (FQ_fil (Or.inr (Or.inr rfl)))) (by omega) (by omega)
        have k3 : KT (hfil (hwR (hwF (hwF h5 0 8 (rbA (hA h 2) n.toNat k os (adv (hA h 2) n.toNat (0, 0, 0, -1)) (cpr h1 oc os (hA h 23))).2.1.2.2.2) 1 1 (0)) 4 (Int.toNat k) (some h4.1)) 27 0 144 (0)) := KT_of (CT_fil (CT_wR (CT_wF0 (CT_wF0 C5 (Or.inl (by decide))) (Or.inr rfl)) (by decide) (by decide))) (by show (0 : Int) ≤ 0 ∧ (0 : Int) ≤ 900; omega) z4 (CX_fq hg q3 (fun j z => by unfold rdF2 at z; omega) (fun j z => z) (fun z => by unfold moA at z; omega) x74)
        have er : hR h5 4 = hR h 4 := ((A4.2.2 4 (by omega)).2.2.2.2).trans ((congrFun r4 4).trans (congrFun F1.2.2.2.1 4))
        have er2 : hR (hfil (hwR (hwF (hwF h5 0 8 (rbA (hA h 2) n.toNat k os (adv (hA h 2) n.toNat (0, 0, 0, -1)) (cpr h1 oc os (hA h 23))).2.1.2.2.2) 1 1 (0)) 4 (Int.toNat k) (some h4.1)) 27 0 144 (0)) 4 = av_u1 (hR h 4) (Int.toNat k) (some h4.1) := by
          rw [← er]
          funext j
          show av_u2 h5.2.2.2.2.2.2.1 4 (Int.toNat k) (some h4.1) 4 j = av_u1 (hR h5 4) (Int.toNat k) (some h4.1) j
          unfold av_u2 av_u1
          by_cases e : j = Int.toNat k
          · rw [if_pos ⟨rfl, e⟩, if_pos e]
          · rw [if_neg (fun z => e z.2), if_neg e]
        exact Hq1 x1 (hfil (hwR (hwF (hwF h5 0 8 (rbA (hA h 2) n.toNat k os (adv (hA h 2) n.toNat (0, 0, 0, -1)) (cpr h1 oc os (hA h 23))).2.1.2.2.2) 1 1 (0)) 4 (Int.toNat k) (some h4.1)) 27 0 144 (0)) h4.1 (h4.1 + 1) f q3 k3 rfl x1 ((f45 3 3 (by decide) (by decide) (by omega)).trans ((F1.2.2.2.2.2.1 3 3 rfl).trans hc)) er2 cc fj ((fil_o (by decide)).trans (((A4.2.2 25 (by omega)).2.1).trans ((a4 25 (by decide)).trans ((ct_d C1).trans (ct_d C).symm))))
    · have c4 : v1 = (0) := c4
      refine av_wp_sqF ck_96 1 (pc' := 26) (lv' := [some (.inr (.inr (.inl (some (0))))), some (.inl k), some (.inl n), some (.inr (.inr (.inl (some (ot))))), none]) (st' := [.inl (-2)]) (h' := h) rfl ?_
      refine av_wp_ret (v := some (.inl (-2))) (ck_96 _ _ rfl) rfl rfl ?_
      exact hqA (by omega)
end
section
/-! THE CLASS'S LAWS AND CLAUSES -/
theorem wq_acs {sc : av_Sr} {cd : List (Nat × av_E)} {Q : Option av_V → av_H → Prop} {pc p' : Nat} {lv : av_L} {r : List av_V} {h : av_H} {ins : Instr} {d : Nat} (hx : cd.lookup pc = some (av_qa ins 1003)) (hp : pc + 3 = p') (hk : av_kd (av_qa ins 1003) = 0) (hs : ∀ lv st, av_stp sc (av_qa ins 1003) pc lv st h = av_lib 1003 pc lv st h) (hr : Nat.ble (r.map av_cat).sum 8 = true) (kd : hK h d = (20, 14)) (hw : av_wp sc cd p' lv r (hcp h d 0 0 14 av_plain) Q) : av_wp sc cd pc lv (.inl (14) :: .inl (0) :: .inr (.inr (.inl (some d))) :: .inl (0) :: .inr (.inr (.inr 101)) :: r) h Q := by
  intro hg
  subst hp
  refine av_wp_st1 hx (pc' := pc + 3) (lv' := lv) (st' := r) (h' := hcp h d 0 0 14 av_plain) hk ?_ hw hg
  rw [hs]
  have kd1 : (h.2.2.1 d).1 = 20 := by rw [show h.2.2.1 d = (20, 14) from kd]
  have kd2 : (h.2.2.1 d).2 = 14 := by rw [show h.2.2.1 d = (20, 14) from kd]
  simp only [av_lib]
  rw [kd2, if_pos ⟨Nat.le_of_ble_eq_true hr, ⟨av_ltN hg kd1 rfl, kd1⟩, by decide, by decide, by decide⟩]
  rfl
/-- fourteen places laid over a row -/
def plr (f p : Nat → Int) : Nat → Int := fun j => if j < 14 then p j else f j
theorem hcp_rw {h : av_H} {d : Nat} {f : Nat → Int} : hcp h d 0 0 14 f = hrw h d (plr (hA h d) f) := by
  unfold hcp hrw
  have : av_cpy h.2.2.2.1 d 0 0 14 f = av_u1 h.2.2.2.1 d (plr (hA h d) f) := by
    funext q j
    unfold av_cpy av_u1 plr
    by_cases e : q = d
    · by_cases c : j < 14
      · rw [if_pos ⟨e, by omega, by omega⟩, if_pos e, if_pos c]
        show f (0 + (j - 0)) = f j
        rw [show 0 + (j - 0) = j by omega]
      · rw [if_neg (fun z => by have z1 := z.2.2; omega), if_pos e, if_neg c, e]
    · rw [if_neg (fun z => e z.1), if_neg e]
  exact congrArg (fun A => ((h.1, h.2.1, h.2.2.1, A, h.2.2.2.2) : av_H)) this
theorem CT_rw {h : av_H} {b r d f : Nat → Int} {lim a : Nat} {t : TT} (C : CT b lim t r d h) (e2 : 2 ≠ a) (e23 : 23 ≠ a) (e25 : 25 ≠ a) : CT b lim t r d (hrw h a f) := by
  obtain ⟨c1, c2, c3, c4, c5, c6, c7, c8, c9, c10, c11⟩ := C
  exact ⟨c1, (hrw_o e2).trans c2, c3, c4, c5, c6, c7, c8, (hrw_o e23).trans c9, (hrw_o e25).trans c10, c11⟩
theorem FQ_rw {eA eR : Nat → Prop} {eF eG : Nat → Nat → Prop} {h : av_H} {a : Nat} {f : Nat → Int} (e : eA a) : FQ eA eR eF eG h (hrw h a f) 0 0 := FQ_A (fun q hq => by
  unfold av_u1
  rw [if_neg (fun z => by rw [z] at hq; exact hq e)])
def lwA (x a : Nat) : Prop := a = 23 ∨ a = 25 ∨ a = x
theorem rd_lw {R : Nat → Prop} {y x n m : Nat} {g h : av_H} (a : FQ rdA2 R (rdF2 x) nun2 g h n m) : FQ (lwA y) R (rdF2 x) nun2 g h n m := FQ_mo a (fun q e => by unfold rdA2 at e; unfold lwA; omega) (fun _ e => e) (fun _ _ e => e) (fun _ _ e => e)

set_option maxRecDepth 100000 in
set_option maxHeartbeats 4000000 in
theorem ct_72 {h : av_H} (L : LY h) {l : Int} (hl : hF h 3 4 = l) (h0 : 0 ≤ l) (h8 : l < 8) (dv : ∀ j, -2 ≤ hA h 25 j ∧ hA h 25 j ≤ 999) {Q : Option av_V → av_H → Prop} (hq : Q (some (.inl l)) (hwF (hrw h (6 + Int.toNat l) (lov (plr (hA h (6 + Int.toNat l)) av_plain) (hA h 25) 14)) 3 4 (l + 1))) : av_wp none cd_72 0 [some (.inr (.inr (.inl (some (3))))), some (.inr (.inr (.inl (some (25)))))] [] h Q := by
  refine av_wp_sqF ck_72 1 (pc' := 1) (lv' := [some (.inr (.inr (.inl (some (3))))), some (.inr (.inr (.inl (some (25)))))]) (st' := [.inr (.inr (.inl (some (3))))]) (h' := h) rfl ?_
  refine wq_gi (p' := 4) (ck_72 _ _ rfl) rfl (congrArg Prod.fst (ly_k L 3 rfl)) rfl (hl) ?_
  refine av_wp_sqF ck_72 1 (pc' := 6) (lv' := [some (.inr (.inr (.inl (some (3))))), some (.inr (.inr (.inl (some (25)))))]) (st' := [.inl (8), .inl l]) (h' := h) rfl ?_
  refine wq_k2 (p' := 9) (ck_72 _ _ rfl) rfl ⟨by omega, by omega⟩ ⟨by omega, by omega⟩ (fun c1 => ?_) (fun c2 => ?_)
  · have c1 : l < (8) := c1
    refine av_wp_sqF ck_72 3 (pc' := 16) (lv' := [some (.inr (.inr (.inl (some (3))))), some (.inr (.inr (.inl (some (25)))))]) (st' := [.inr (.inr (.inl (some (3)))), .inl (0), .inr (.inr (.inr 101))]) (h' := h) rfl ?_
    refine wq_gr (p' := 19) (ck_72 _ _ rfl) rfl (congrArg Prod.fst (ly_k L 3 rfl)) rfl (ly_g L 3 1 5 rfl) ?_
    refine av_wp_sqF ck_72 1 (pc' := 20) (lv' := [some (.inr (.inr (.inl (some (3))))), some (.inr (.inr (.inl (some (25)))))]) (st' := [.inr (.inr (.inl (some (3)))), .inr (.inr (.inl (some (5)))), .inl (0), .inr (.inr (.inr 101))]) (h' := h) rfl ?_
    refine wq_gi (p' := 23) (ck_72 _ _ rfl) rfl (congrArg Prod.fst (ly_k L 3 rfl)) rfl (hl) ?_
    refine wq_ar (p' := 24) (n := 8) (k := 32) (v := some (6 + Int.toNat l)) rfl rfl (ly_k L 5 rfl) (Or.inr (Or.inr rfl)) (by omega) (L.2.2.1 (Int.toNat l) (by omega)) ?_
    refine av_wp_sqF ck_72 2 (pc' := 27) (lv' := [some (.inr (.inr (.inl (some (3))))), some (.inr (.inr (.inl (some (25)))))]) (st' := [.inl (14), .inl (0), .inr (.inr (.inl (some ((6 + Int.toNat l))))), .inl (0), .inr (.inr (.inr 101))]) (h' := h) rfl ?_
    refine wq_acs (p' := 30) (ck_72 _ _ rfl) rfl rfl (fun _ _ => rfl) rfl (ly_l L (by omega)) ?_
    rw [hcp_rw]
    refine av_wp_sqF ck_72 1 (pc' := 31) (lv' := [some (.inr (.inr (.inl (some (3))))), some (.inr (.inr (.inl (some (25)))))]) (st' := [.inr (.inr (.inl (some (3))))]) (h' := (hrw h (6 + Int.toNat l) (plr (hA h (6 + Int.toNat l)) av_plain))) rfl ?_
    refine wq_gr (p' := 34) (ck_72 _ _ rfl) rfl (congrArg Prod.fst (ly_k L 3 rfl)) rfl (ly_g L 3 1 5 rfl) ?_
    refine av_wp_sqF ck_72 1 (pc' := 35) (lv' := [some (.inr (.inr (.inl (some (3))))), some (.inr (.inr (.inl (some (25)))))]) (st' := [.inr (.inr (.inl (some (3)))), .inr (.inr (.inl (some (5))))]) (h' := (hrw h (6 + Int.toNat l) (plr (hA h (6 + Int.toNat l)) av_plain))) rfl ?_
    refine wq_gi (p' := 38) (ck_72 _ _ rfl) rfl (congrArg Prod.fst (ly_k L 3 rfl)) rfl (hl) ?_
    refine wq_ar (p' := 39) (n := 8) (k := 32) (v := some (6 + Int.toNat l)) rfl rfl (ly_k L 5 rfl) (Or.inr (Or.inr rfl)) (by omega) (L.2.2.1 (Int.toNat l) (by omega)) ?_
    refine av_wp_sqF ck_72 1 (pc' := 40) (lv' := [some (.inr (.inr (.inl (some (3))))), some (.inr (.inr (.inl (some (25)))))]) (st' := [.inr (.inr (.inl (some (25)))), .inr (.inr (.inl (some ((6 + Int.toNat l)))))]) (h' := (hrw h (6 + Int.toNat l) (plr (hA h (6 + Int.toNat l)) av_plain))) rfl ?_
    refine wq_cs (p' := 43) (av_qc (.invokestatic 45) 74 2 2 5) 3 cd_74 [.inr (.inr (.inl (some ((6 + Int.toNat l))))), .inr (.inr (.inl (some (25))))] [.inr (.inr (.inl (some (25)))), .inr (.inr (.inl (some ((6 + Int.toNat l)))))] [some (.inr (.inr (.inl (some ((6 + Int.toNat l)))))), some (.inr (.inr (.inl (some (25))))), none] (ck_72 _ _ rfl) rfl rfl pp_74 (fun _ => rfl) rfl rfl ?_
    refine ct_74x (h := h) (a := (6 + Int.toNat l)) (q := 25) (ly_l L (by omega)) (ly_k L 25 rfl) (by omega) dv ?_
    show av_wp _ cd_72 43 [some (.inr (.inr (.inl (some (3))))), some (.inr (.inr (.inl (some (25)))))] [] (hrw h (6 + Int.toNat l) (lov (plr (hA h (6 + Int.toNat l)) av_plain) (hA h 25) 14)) _
    refine av_wp_sqF ck_72 2 (pc' := 45) (lv' := [some (.inr (.inr (.inl (some (3))))), some (.inr (.inr (.inl (some (25)))))]) (st' := [.inr (.inr (.inl (some (3)))), .inr (.inr (.inl (some (3))))]) (h' := (hrw h (6 + Int.toNat l) (lov (plr (hA h (6 + Int.toNat l)) av_plain) (hA h 25) 14))) rfl ?_
    refine wq_gi (p' := 48) (ck_72 _ _ rfl) rfl (congrArg Prod.fst (ly_k L 3 rfl)) rfl (hl) ?_
    refine av_wp_sqF ck_72 2 (pc' := 50) (lv' := [some (.inr (.inr (.inl (some (3))))), some (.inr (.inr (.inl (some (25)))))]) (st' := [.inl (l + (1)), .inr (.inr (.inl (some (3))))]) (h' := (hrw h (6 + Int.toNat l) (lov (plr (hA h (6 + Int.toNat l)) av_plain) (hA h 25) 14))) rfl ?_
    refine wq_pi (p' := 53) (ck_72 _ _ rfl) rfl (congrArg Prod.fst (ly_k L 3 rfl)) rfl ?_
    refine av_wp_sqF ck_72 1 (pc' := 54) (lv' := [some (.inr (.inr (.inl (some (3))))), some (.inr (.inr (.inl (some (25)))))]) (st' := [.inr (.inr (.inl (some (3))))]) (h' := (hwF (hrw h (6 + Int.toNat l) (lov (plr (hA h (6 + Int.toNat l)) av_plain) (hA h 25) 14)) 3 4 (l + (1)))) rfl ?_
    refine wq_gi (p' := 57) (ck_72 _ _ rfl) rfl (congrArg Prod.fst (ly_k L 3 rfl)) rfl (rfl) ?_
    refine av_wp_sqF ck_72 2 (pc' := 59) (lv' := [some (.inr (.inr (.inl (some (3))))), some (.inr (.inr (.inl (some (25)))))]) (st' := [.inl ((l + (1)) - (1))]) (h' := (hwF (hrw h (6 + Int.toNat l) (lov (plr (hA h (6 + Int.toNat l)) av_plain) (hA h 25) 14)) 3 4 (l + (1)))) rfl ?_
    refine av_wp_ret (v := some (.inl ((l + (1)) - (1)))) (ck_72 _ _ rfl) rfl rfl ?_
    rw [show l + 1 - 1 = l by omega]
    exact hq
  · have c2 : (8) ≤ l := c2
    exfalso; omega

set_option maxRecDepth 100000 in
set_option maxHeartbeats 4000000 in
theorem ct_73 {h : av_H} (L : LY h) {l : Int} (hl : hF h 3 5 = l) (h0 : 0 ≤ l) (h8 : l < 6) (dv : ∀ j, -2 ≤ hA h 25 j ∧ hA h 25 j ≤ 999) {Q : Option av_V → av_H → Prop} (hq : Q (some (.inl l)) (hwF (hrw h (15 + Int.toNat l) (plr (hA h (15 + Int.toNat l)) (hA h 25))) 3 5 (l + 1))) : av_wp none cd_73 0 [some (.inr (.inr (.inl (some (3))))), some (.inr (.inr (.inl (some (25)))))] [] h Q := by
  refine av_wp_sqF ck_73 1 (pc' := 1) (lv' := [some (.inr (.inr (.inl (some (3))))), some (.inr (.inr (.inl (some (25)))))]) (st' := [.inr (.inr (.inl (some (3))))]) (h' := h) rfl ?_
  refine wq_gi (p' := 4) (ck_73 _ _ rfl) rfl (congrArg Prod.fst (ly_k L 3 rfl)) rfl (hl) ?_
  refine av_wp_sqF ck_73 1 (pc' := 6) (lv' := [some (.inr (.inr (.inl (some (3))))), some (.inr (.inr (.inl (some (25)))))]) (st' := [.inl (6), .inl l]) (h' := h) rfl ?_
  refine wq_k2 (p' := 9) (ck_73 _ _ rfl) rfl ⟨by omega, by omega⟩ ⟨by omega, by omega⟩ (fun c1 => ?_) (fun c2 => ?_)
  · have c1 : l < (6) := c1
    refine av_wp_sqF ck_73 3 (pc' := 14) (lv' := [some (.inr (.inr (.inl (some (3))))), some (.inr (.inr (.inl (some (25)))))]) (st' := [.inr (.inr (.inl (some (3)))), .inl (0), .inr (.inr (.inl (some (25))))]) (h' := h) rfl ?_
    refine wq_gr (p' := 17) (ck_73 _ _ rfl) rfl (congrArg Prod.fst (ly_k L 3 rfl)) rfl (ly_g L 3 2 14 rfl) ?_
    refine av_wp_sqF ck_73 1 (pc' := 18) (lv' := [some (.inr (.inr (.inl (some (3))))), some (.inr (.inr (.inl (some (25)))))]) (st' := [.inr (.inr (.inl (some (3)))), .inr (.inr (.inl (some (14)))), .inl (0), .inr (.inr (.inl (some (25))))]) (h' := h) rfl ?_
    refine wq_gi (p' := 21) (ck_73 _ _ rfl) rfl (congrArg Prod.fst (ly_k L 3 rfl)) rfl (hl) ?_
    refine wq_ar (p' := 22) (n := 6) (k := 32) (v := some (15 + Int.toNat l)) rfl rfl (ly_k L 14 rfl) (Or.inr (Or.inr rfl)) (by omega) (L.2.2.2 (Int.toNat l) (by omega)) ?_
    refine av_wp_sqF ck_73 2 (pc' := 25) (lv' := [some (.inr (.inr (.inl (some (3))))), some (.inr (.inr (.inl (some (25)))))]) (st' := [.inl (14), .inl (0), .inr (.inr (.inl (some ((15 + Int.toNat l))))), .inl (0), .inr (.inr (.inl (some (25))))]) (h' := h) rfl ?_
    refine wq_ac (p' := 28) (nd := 14) (nq := 14) (ck_73 _ _ rfl) rfl rfl (fun _ _ => rfl) rfl (ly_q L (by omega)) (ly_k L 25 rfl) (by omega) (by omega) (by omega) (by omega) ?_
    rw [show (0 : Int).toNat = 0 from rfl, show (14 : Int).toNat = 14 from rfl, hcp_rw]
    refine av_wp_sqF ck_73 2 (pc' := 30) (lv' := [some (.inr (.inr (.inl (some (3))))), some (.inr (.inr (.inl (some (25)))))]) (st' := [.inr (.inr (.inl (some (3)))), .inr (.inr (.inl (some (3))))]) (h' := (hrw h (15 + Int.toNat l) (plr (hA h (15 + Int.toNat l)) (hA h 25)))) rfl ?_
    refine wq_gi (p' := 33) (ck_73 _ _ rfl) rfl (congrArg Prod.fst (ly_k L 3 rfl)) rfl (hl) ?_
    refine av_wp_sqF ck_73 2 (pc' := 35) (lv' := [some (.inr (.inr (.inl (some (3))))), some (.inr (.inr (.inl (some (25)))))]) (st' := [.inl (l + (1)), .inr (.inr (.inl (some (3))))]) (h' := (hrw h (15 + Int.toNat l) (plr (hA h (15 + Int.toNat l)) (hA h 25)))) rfl ?_
    refine wq_pi (p' := 38) (ck_73 _ _ rfl) rfl (congrArg Prod.fst (ly_k L 3 rfl)) rfl ?_
    refine av_wp_sqF ck_73 1 (pc' := 39) (lv' := [some (.inr (.inr (.inl (some (3))))), some (.inr (.inr (.inl (some (25)))))]) (st' := [.inr (.inr (.inl (some (3))))]) (h' := (hwF (hrw h (15 + Int.toNat l) (plr (hA h (15 + Int.toNat l)) (hA h 25))) 3 5 (l + (1)))) rfl ?_
    refine wq_gi (p' := 42) (ck_73 _ _ rfl) rfl (congrArg Prod.fst (ly_k L 3 rfl)) rfl (rfl) ?_
    refine av_wp_sqF ck_73 2 (pc' := 44) (lv' := [some (.inr (.inr (.inl (some (3))))), some (.inr (.inr (.inl (some (25)))))]) (st' := [.inl ((l + (1)) - (1))]) (h' := (hwF (hrw h (15 + Int.toNat l) (plr (hA h (15 + Int.toNat l)) (hA h 25))) 3 5 (l + (1)))) rfl ?_
    refine av_wp_ret (v := some (.inl ((l + (1)) - (1)))) (ck_73 _ _ rfl) rfl rfl ?_
    rw [show l + 1 - 1 = l by omega]
    exact hq
  · have c2 : (6) ≤ l := c2
    exfalso; omega

set_option maxRecDepth 100000 in
set_option maxHeartbeats 4000000 in
theorem ct_97 {h : av_H} (I : IC h) (K : KT h) (n : Int) (qn : -2147483648 ≤ n ∧ n ≤ 2147483647)  {Q : Option av_V → av_H → Prop} (hqA : (n < 0 ∨ hF h 1 1 < n) → Q (some (.inl (-2))) h) (hqB : 0 ≤ n → n ≤ hF h 1 1 → hF h 3 4 = 8 → Q (some (.inl (-3))) h) (hq0 : 0 ≤ n → n ≤ hF h 1 1 → hF h 3 4 < 8 → (rlA (hA h 2) n.toNat 0 (adv (hA h 2) n.toNat (0, 0, 0, -1)) (hA h 25)).2.1.2.2.2 ≠ -1 → ∀ h', FQ rdA2 nun1 (rdF2 4) nun2 h h' 0 0 → KT h' → hF h' 1 1 = 0 → hF h' 0 8 = (rlA (hA h 2) n.toNat 0 (adv (hA h 2) n.toNat (0, 0, 0, -1)) (hA h 25)).2.1.2.2.2 → hF h' 3 4 = hF h 3 4 → Q (some (.inl (-1))) h') (hq1 : 0 ≤ n → n ≤ hF h 1 1 → hF h 3 4 < 8 → (rlA (hA h 2) n.toNat 0 (adv (hA h 2) n.toNat (0, 0, 0, -1)) (hA h 25)).2.1.2.2.2 = -1 → ∀ h', FQ (lwA (6 + Int.toNat (hF h 3 4))) nun1 (rdF2 4) nun2 h h' 0 0 → KT h' → hF h' 1 1 = 0 → hF h' 0 8 = -1 → hF h' 3 4 = hF h 3 4 + 1 → hA h' (6 + Int.toNat (hF h 3 4)) = (lov (plr (hA h (6 + Int.toNat (hF h 3 4))) av_plain) (rlA (hA h 2) n.toNat 0 (adv (hA h 2) n.toNat (0, 0, 0, -1)) (hA h 25)).2.2 14) → (∀ j, -2 ≤ (rlA (hA h 2) n.toNat 0 (adv (hA h 2) n.toNat (0, 0, 0, -1)) (hA h 25)).2.2 j ∧ (rlA (hA h 2) n.toNat 0 (adv (hA h 2) n.toNat (0, 0, 0, -1)) (hA h 25)).2.2 j ≤ 999) → Q (some (.inl (hF h 3 4))) h') : av_wp none cd_97 0 [some (.inr (.inr (.inl (some (0))))), some (.inl n), none] [] h Q := by
  refine gd_of (fun hg => ?_)
  obtain ⟨⟨lim0, t0, C⟩, ql, hz, x74⟩ := K
  have L := I.1
  obtain ⟨len, hl⟩ : ∃ v, hF h 1 1 = v := ⟨_, rfl⟩
  rw [hl] at ql
  have ln := ic_lc I
  have kn := ic_kc I
  obtain ⟨lnt, hlc⟩ : ∃ v, hF h 3 4 = v := ⟨_, rfl⟩
  obtain ⟨knt, hkc⟩ : ∃ v, hF h 3 5 = v := ⟨_, rfl⟩
  rw [hlc] at ln
  rw [hkc] at kn
  rw [hl] at hqA
  rw [hl, hlc] at hqB
  rw [hl, hlc] at hq0 hq1
  refine av_wp_sqF ck_97 1 (pc' := 1) (lv' := [some (.inr (.inr (.inl (some (0))))), some (.inl n), none]) (st' := [.inr (.inr (.inl (some (0))))]) (h' := h) rfl ?_
  refine wq_gr (p' := 4) (ck_97 _ _ rfl) rfl (congrArg Prod.fst (ly_k L 0 rfl)) rfl (ly_g L 0 0 1 rfl) ?_
  refine av_wp_sqF ck_97 1 (pc' := 5) (lv' := [some (.inr (.inr (.inl (some (0))))), some (.inl n), none]) (st' := [.inl n, .inr (.inr (.inl (some (1))))]) (h' := h) rfl ?_
  refine wq_cv (p' := 8) (av_qc (.invokevirtual 75) 80 1 0 6) 2 cd_80 [.inl n] (1) 6 [some (.inr (.inr (.inl (some (1))))), some (.inl n)] (ck_97 _ _ rfl) rfl rfl pp_80 rfl rfl rfl (congrArg Prod.fst (ly_k L 1 rfl)) rfl rfl rfl rfl ?_
  refine ct_80 L hl ql n (by omega) (fun v1 p2 => ?_)
  show av_wp _ cd_97 8 [some (.inr (.inr (.inl (some (0))))), some (.inl n), none] [.inl v1] h _
  refine wq_k1 (p' := 11) (ck_97 _ _ rfl) rfl ⟨by omega, by omega⟩ (fun c3 => ?_) (fun c4 => ?_)
  · have c3 : v1 ≠ (0) := c3
    refine av_wp_sqF ck_97 1 (pc' := 15) (lv' := [some (.inr (.inr (.inl (some (0))))), some (.inl n), none]) (st' := [.inr (.inr (.inl (some (0))))]) (h' := h) rfl ?_
    refine wq_gr (p' := 18) (ck_97 _ _ rfl) rfl (congrArg Prod.fst (ly_k L 0 rfl)) rfl (ly_g L 0 1 3 rfl) ?_
    refine wq_gi (p' := 21) (ck_97 _ _ rfl) rfl (congrArg Prod.fst (ly_k L 3 rfl)) rfl (hlc) ?_
    refine av_wp_sqF ck_97 1 (pc' := 23) (lv' := [some (.inr (.inr (.inl (some (0))))), some (.inl n), none]) (st' := [.inl (8), .inl lnt]) (h' := h) rfl ?_
    refine wq_k2 (p' := 26) (ck_97 _ _ rfl) rfl ⟨by omega, by omega⟩ ⟨by omega, by omega⟩ (fun c5 => ?_) (fun c6 => ?_)
    · have c5 : lnt < (8) := c5
      refine av_wp_sqF ck_97 1 (pc' := 30) (lv' := [some (.inr (.inr (.inl (some (0))))), some (.inl n), none]) (st' := [.inr (.inr (.inl (some (0))))]) (h' := h) rfl ?_
      refine wq_gr (p' := 33) (ck_97 _ _ rfl) rfl (congrArg Prod.fst (ly_k L 0 rfl)) rfl (ly_g L 0 0 1 rfl) ?_
      refine av_wp_sqF ck_97 1 (pc' := 34) (lv' := [some (.inr (.inr (.inl (some (0))))), some (.inl n), none]) (st' := [.inl n, .inr (.inr (.inl (some (1))))]) (h' := h) rfl ?_
      refine wq_cv (p' := 37) (av_qc (.invokevirtual 82) 81 1 0 6) 2 cd_81 [.inl n] (1) 6 [some (.inr (.inr (.inl (some (1))))), some (.inl n)] (ck_97 _ _ rfl) rfl rfl pp_81 rfl rfl rfl (congrArg Prod.fst (ly_k L 1 rfl)) rfl rfl rfl rfl ?_
      refine ct_81 C (FT_rf h) hl ql n (by omega) (fun h1 C1 F1 => ?_)
      show av_wp _ cd_97 37 [some (.inr (.inr (.inl (some (0))))), some (.inl n), none] [] h1 _
      refine av_wp_sqF ck_97 1 (pc' := 38) (lv' := [some (.inr (.inr (.inl (some (0))))), some (.inl n), none]) (st' := [.inr (.inr (.inl (some (0))))]) (h' := h1) rfl ?_
      refine wq_gr (p' := 41) (ck_97 _ _ rfl) rfl (congrArg Prod.fst (ly_k C1.1 0 rfl)) rfl (ly_g C1.1 0 4 24 rfl) ?_
      refine av_wp_sqF ck_97 1 (pc' := 42) (lv' := [some (.inr (.inr (.inl (some (0))))), some (.inl n), none]) (st' := [.inl (0), .inr (.inr (.inl (some (24))))]) (h' := h1) rfl ?_
      refine wq_cv (p' := 45) (av_qc (.invokevirtual 113) 65 1 0 4) 4 cd_65 [.inl (0)] (24) 4 [some (.inr (.inr (.inl (some (24))))), some (.inl (0)), none, none] (ck_97 _ _ rfl) rfl rfl pp_65 rfl rfl rfl (congrArg Prod.fst (ly_k C1.1 24 rfl)) rfl rfl rfl rfl ?_
      refine ct_65 C1 F1 ((0)) (by omega) (fun v h2 C2 F2 pv => ?_)
      show av_wp _ cd_97 45 [some (.inr (.inr (.inl (some (0))))), some (.inl n), none] [.inl v] h2 _
      refine av_wp_sqF ck_97 2 (pc' := 47) (lv' := [some (.inr (.inr (.inl (some (0))))), some (.inl n), some (.inl v)]) (st' := [.inr (.inr (.inl (some (0))))]) (h' := h2) rfl ?_
      refine wq_cv (p' := 50) (av_qc (.invokevirtual 89) 99 0 0 7) 1 cd_99 [] (0) 7 [some (.inr (.inr (.inl (some (0)))))] (ck_97 _ _ rfl) rfl rfl pp_99 rfl rfl rfl (congrArg Prod.fst (ly_k C2.1 0 rfl)) rfl rfl rfl rfl ?_
      refine ct_99 C2.1 C2 ?_
      show av_wp _ cd_97 50 [some (.inr (.inr (.inl (some (0))))), some (.inl n), some (.inl v)] [] (hwF (hwF h2 0 8 (rlA (hA h 2) n.toNat 0 (adv (hA h 2) n.toNat (0, 0, 0, -1)) (hA h 25)).2.1.2.2.2) 1 1 (0)) _
      refine av_wp_sqF ck_97 1 (pc' := 51) (lv' := [some (.inr (.inr (.inl (some (0))))), some (.inl n), some (.inl v)]) (st' := [.inl v]) (h' := (hwF (hwF h2 0 8 (rlA (hA h 2) n.toNat 0 (adv (hA h 2) n.toNat (0, 0, 0, -1)) (hA h 25)).2.1.2.2.2) 1 1 (0))) rfl ?_
      refine wq_k1 (p' := 54) (ck_97 _ _ rfl) rfl ⟨by omega, by omega⟩ (fun c7 => ?_) (fun c8 => ?_)
      · have c7 : v = (0) := c7
        refine av_wp_sqF ck_97 1 (pc' := 72) (lv' := [some (.inr (.inr (.inl (some (0))))), some (.inl n), some (.inl v)]) (st' := [.inl (-1)]) (h' := (hwF (hwF h2 0 8 (rlA (hA h 2) n.toNat 0 (adv (hA h 2) n.toNat (0, 0, 0, -1)) (hA h 25)).2.1.2.2.2) 1 1 (0))) rfl ?_
        refine av_wp_ret (v := some (.inl (-1))) (ck_97 _ _ rfl) rfl rfl ?_
        have q1 : FQ rdA2 nun1 (rdF2 4) nun2 h h2 0 0 := FQ_T F2 (Or.inl rfl) (Or.inr rfl) (fun _ => Or.inl rfl)
        have q2 := FQ_tr (FQ_tr q1 (FQ_wF (o := 0) (f := 8) (v := (rlA (hA h 2) n.toNat 0 (adv (hA h 2) n.toNat (0, 0, 0, -1)) (hA h 25)).2.1.2.2.2) (Or.inr (Or.inr (Or.inl ⟨rfl, rfl⟩))))) (FQ_wF (o := 1) (f := 1) (v := (0)) (Or.inl rfl))
        have k3 : KT (hwF (hwF h2 0 8 (rlA (hA h 2) n.toNat 0 (adv (hA h 2) n.toNat (0, 0, 0, -1)) (hA h 25)).2.1.2.2.2) 1 1 (0)) := KT_of (CT_wF0 (CT_wF0 C2 (Or.inl (by decide))) (Or.inr rfl)) (by show (0 : Int) ≤ 0 ∧ (0 : Int) ≤ 900; omega) hz (CX_fq hg q2 (fun j z => by unfold rdF2 at z; omega) (fun j z => z) (fun z => by unfold rdA2 at z; omega) x74)
        exact hq0 (by omega) (by omega) (by omega) (by omega) (hwF (hwF h2 0 8 (rlA (hA h 2) n.toNat 0 (adv (hA h 2) n.toNat (0, 0, 0, -1)) (hA h 25)).2.1.2.2.2) 1 1 (0)) q2 k3 rfl rfl ((F2.2.2.2.2.2.1 3 4 rfl).trans hlc)
      · have c8 : v ≠ (0) := c8
        refine av_wp_sqF ck_97 1 (pc' := 55) (lv' := [some (.inr (.inr (.inl (some (0))))), some (.inl n), some (.inl v)]) (st' := [.inr (.inr (.inl (some (0))))]) (h' := (hwF (hwF h2 0 8 (rlA (hA h 2) n.toNat 0 (adv (hA h 2) n.toNat (0, 0, 0, -1)) (hA h 25)).2.1.2.2.2) 1 1 (0))) rfl ?_
        refine wq_gr (p' := 58) (ck_97 _ _ rfl) rfl (congrArg Prod.fst (ly_k C2.1 0 rfl)) rfl (ly_g C2.1 0 1 3 rfl) ?_
        refine av_wp_sqF ck_97 1 (pc' := 59) (lv' := [some (.inr (.inr (.inl (some (0))))), some (.inl n), some (.inl v)]) (st' := [.inr (.inr (.inl (some (0)))), .inr (.inr (.inl (some (3))))]) (h' := (hwF (hwF h2 0 8 (rlA (hA h 2) n.toNat 0 (adv (hA h 2) n.toNat (0, 0, 0, -1)) (hA h 25)).2.1.2.2.2) 1 1 (0))) rfl ?_
        refine wq_gr (p' := 62) (ck_97 _ _ rfl) rfl (congrArg Prod.fst (ly_k C2.1 0 rfl)) rfl (ly_g C2.1 0 4 24 rfl) ?_
        refine wq_gr (p' := 65) (ck_97 _ _ rfl) rfl (congrArg Prod.fst (ly_k C2.1 24 rfl)) rfl (ly_g C2.1 24 1 25 rfl) ?_
        refine wq_cv (p' := 68) (av_qc (.invokevirtual 120) 72 1 0 5) 2 cd_72 [.inr (.inr (.inl (some (25))))] (3) 5 [some (.inr (.inr (.inl (some (3))))), some (.inr (.inr (.inl (some (25)))))] (ck_97 _ _ rfl) rfl rfl pp_72 rfl rfl rfl (congrArg Prod.fst (ly_k C2.1 3 rfl)) rfl rfl rfl rfl ?_
        refine ct_72 (h := (hwF (hwF h2 0 8 (rlA (hA h 2) n.toNat 0 (adv (hA h 2) n.toNat (0, 0, 0, -1)) (hA h 25)).2.1.2.2.2) 1 1 (0))) C2.1 (l := lnt) (((F2.2.2.2.2.2.1 3 4 rfl).trans hlc)) (by omega) (by omega) (fun j => by rw [show hA (hwF (hwF h2 0 8 (rlA (hA h 2) n.toNat 0 (adv (hA h 2) n.toNat (0, 0, 0, -1)) (hA h 25)).2.1.2.2.2) 1 1 (0)) 25 = hA h2 25 from rfl, ct_d C2]; exact ct_dv C2 j) ?_
        show av_wp _ cd_97 68 [some (.inr (.inr (.inl (some (0))))), some (.inl n), some (.inl v)] [.inl lnt] (hwF (hrw (hwF (hwF h2 0 8 (rlA (hA h 2) n.toNat 0 (adv (hA h 2) n.toNat (0, 0, 0, -1)) (hA h 25)).2.1.2.2.2) 1 1 (0)) (6 + Int.toNat lnt) (lov (plr (hA (hwF (hwF h2 0 8 (rlA (hA h 2) n.toNat 0 (adv (hA h 2) n.toNat (0, 0, 0, -1)) (hA h 25)).2.1.2.2.2) 1 1 (0)) (6 + Int.toNat lnt)) av_plain) (hA (hwF (hwF h2 0 8 (rlA (hA h 2) n.toNat 0 (adv (hA h 2) n.toNat (0, 0, 0, -1)) (hA h 25)).2.1.2.2.2) 1 1 (0)) 25) 14)) 3 4 (lnt + 1)) _
        refine av_wp_sqF ck_97 1 (pc' := 72) (lv' := [some (.inr (.inr (.inl (some (0))))), some (.inl n), some (.inl v)]) (st' := [.inl lnt]) (h' := (hwF (hrw (hwF (hwF h2 0 8 (rlA (hA h 2) n.toNat 0 (adv (hA h 2) n.toNat (0, 0, 0, -1)) (hA h 25)).2.1.2.2.2) 1 1 (0)) (6 + Int.toNat lnt) (lov (plr (hA (hwF (hwF h2 0 8 (rlA (hA h 2) n.toNat 0 (adv (hA h 2) n.toNat (0, 0, 0, -1)) (hA h 25)).2.1.2.2.2) 1 1 (0)) (6 + Int.toNat lnt)) av_plain) (hA (hwF (hwF h2 0 8 (rlA (hA h 2) n.toNat 0 (adv (hA h 2) n.toNat (0, 0, 0, -1)) (hA h 25)).2.1.2.2.2) 1 1 (0)) 25) 14)) 3 4 (lnt + 1))) rfl ?_
        refine av_wp_ret (v := some (.inl lnt)) (ck_97 _ _ rfl) rfl rfl ?_
        have q1 : FQ rdA2 nun1 (rdF2 4) nun2 h h2 0 0 := FQ_T F2 (Or.inl rfl) (Or.inr rfl) (fun _ => Or.inl rfl)
        have q2 := FQ_tr (FQ_tr q1 (FQ_wF (o := 0) (f := 8) (v := (rlA (hA h 2) n.toNat 0 (adv (hA h 2) n.toNat (0, 0, 0, -1)) (hA h 25)).2.1.2.2.2) (Or.inr (Or.inr (Or.inl ⟨rfl, rfl⟩))))) (FQ_wF (o := 1) (f := 1) (v := (0)) (Or.inl rfl))
        have q3 : FQ (lwA (6 + Int.toNat lnt)) nun1 (rdF2 4) nun2 h (hwF (hrw (hwF (hwF h2 0 8 (rlA (hA h 2) n.toNat 0 (adv (hA h 2) n.toNat (0, 0, 0, -1)) (hA h 25)).2.1.2.2.2) 1 1 (0)) (6 + Int.toNat lnt) (lov (plr (hA (hwF (hwF h2 0 8 (rlA (hA h 2) n.toNat 0 (adv (hA h 2) n.toNat (0, 0, 0, -1)) (hA h 25)).2.1.2.2.2) 1 1 (0)) (6 + Int.toNat lnt)) av_plain) (hA (hwF (hwF h2 0 8 (rlA (hA h 2) n.toNat 0 (adv (hA h 2) n.toNat (0, 0, 0, -1)) (hA h 25)).2.1.2.2.2) 1 1 (0)) 25) 14)) 3 4 (lnt + 1)) 0 0 := FQ_tr (FQ_tr (rd_lw q2) (FQ_rw (Or.inr (Or.inr rfl)))) (FQ_wF (Or.inr (Or.inr (Or.inr ⟨rfl, rfl⟩))))
        have k3 : KT (hwF (hrw (hwF (hwF h2 0 8 (rlA (hA h 2) n.toNat 0 (adv (hA h 2) n.toNat (0, 0, 0, -1)) (hA h 25)).2.1.2.2.2) 1 1 (0)) (6 + Int.toNat lnt) (lov (plr (hA (hwF (hwF h2 0 8 (rlA (hA h 2) n.toNat 0 (adv (hA h 2) n.toNat (0, 0, 0, -1)) (hA h 25)).2.1.2.2.2) 1 1 (0)) (6 + Int.toNat lnt)) av_plain) (hA (hwF (hwF h2 0 8 (rlA (hA h 2) n.toNat 0 (adv (hA h 2) n.toNat (0, 0, 0, -1)) (hA h 25)).2.1.2.2.2) 1 1 (0)) 25) 14)) 3 4 (lnt + 1)) := KT_of (CT_wF0 (CT_rw (CT_wF0 (CT_wF0 C2 (Or.inl (by decide))) (Or.inr rfl)) (by omega) (by omega) (by omega)) (Or.inl (by decide))) (by show (0 : Int) ≤ 0 ∧ (0 : Int) ≤ 900; omega) hz (CX_fq hg q3 (fun j z => by unfold rdF2 at z; omega) (fun j z => z) (fun z => by unfold lwA at z; omega) x74)
        have ea : hA h2 (6 + Int.toNat lnt) = hA h (6 + Int.toNat lnt) := F2.2.2.2.2.2.2 _ (by omega) (by omega)
        have er : hA (hwF (hrw (hwF (hwF h2 0 8 (rlA (hA h 2) n.toNat 0 (adv (hA h 2) n.toNat (0, 0, 0, -1)) (hA h 25)).2.1.2.2.2) 1 1 (0)) (6 + Int.toNat lnt) (lov (plr (hA (hwF (hwF h2 0 8 (rlA (hA h 2) n.toNat 0 (adv (hA h 2) n.toNat (0, 0, 0, -1)) (hA h 25)).2.1.2.2.2) 1 1 (0)) (6 + Int.toNat lnt)) av_plain) (hA (hwF (hwF h2 0 8 (rlA (hA h 2) n.toNat 0 (adv (hA h 2) n.toNat (0, 0, 0, -1)) (hA h 25)).2.1.2.2.2) 1 1 (0)) 25) 14)) 3 4 (lnt + 1)) (6 + Int.toNat lnt) = (lov (plr (hA h (6 + Int.toNat lnt)) av_plain) (rlA (hA h 2) n.toNat 0 (adv (hA h 2) n.toNat (0, 0, 0, -1)) (hA h 25)).2.2 14) := by
          rw [← ea, ← ct_d C2]
          exact hrw_s
        exact hq1 (by omega) (by omega) (by omega) (by omega) (hwF (hrw (hwF (hwF h2 0 8 (rlA (hA h 2) n.toNat 0 (adv (hA h 2) n.toNat (0, 0, 0, -1)) (hA h 25)).2.1.2.2.2) 1 1 (0)) (6 + Int.toNat lnt) (lov (plr (hA (hwF (hwF h2 0 8 (rlA (hA h 2) n.toNat 0 (adv (hA h 2) n.toNat (0, 0, 0, -1)) (hA h 25)).2.1.2.2.2) 1 1 (0)) (6 + Int.toNat lnt)) av_plain) (hA (hwF (hwF h2 0 8 (rlA (hA h 2) n.toNat 0 (adv (hA h 2) n.toNat (0, 0, 0, -1)) (hA h 25)).2.1.2.2.2) 1 1 (0)) 25) 14)) 3 4 (lnt + 1)) q3 k3 rfl (show (rlA (hA h 2) n.toNat 0 (adv (hA h 2) n.toNat (0, 0, 0, -1)) (hA h 25)).2.1.2.2.2 = -1 by omega) rfl er (ct_dv C2)
    · have c6 : (8) ≤ lnt := c6
      refine av_wp_sqF ck_97 1 (pc' := 28) (lv' := [some (.inr (.inr (.inl (some (0))))), some (.inl n), none]) (st' := [.inl (-3)]) (h' := h) rfl ?_
      refine av_wp_ret (v := some (.inl (-3))) (ck_97 _ _ rfl) rfl rfl ?_
      exact hqB (by omega) (by omega) (by omega)
  · have c4 : v1 = (0) := c4
    refine av_wp_sqF ck_97 1 (pc' := 13) (lv' := [some (.inr (.inr (.inl (some (0))))), some (.inl n), none]) (st' := [.inl (-2)]) (h' := h) rfl ?_
    refine av_wp_ret (v := some (.inl (-2))) (ck_97 _ _ rfl) rfl rfl ?_
    exact hqA (by omega)

set_option maxRecDepth 100000 in
set_option maxHeartbeats 4000000 in
theorem ct_98 {h : av_H} (I : IC h) (K : KT h) (n : Int) (qn : -2147483648 ≤ n ∧ n ≤ 2147483647)  {Q : Option av_V → av_H → Prop} (hqA : (n < 0 ∨ hF h 1 1 < n) → Q (some (.inl (-2))) h) (hqB : 0 ≤ n → n ≤ hF h 1 1 → hF h 3 5 = 6 → Q (some (.inl (-3))) h) (hq0 : 0 ≤ n → n ≤ hF h 1 1 → hF h 3 5 < 6 → (rlA (hA h 2) n.toNat 1 (adv (hA h 2) n.toNat (0, 0, 0, -1)) (hA h 25)).2.1.2.2.2 ≠ -1 → ∀ h', FQ rdA2 nun1 (rdF2 5) nun2 h h' 0 0 → KT h' → hF h' 1 1 = 0 → hF h' 0 8 = (rlA (hA h 2) n.toNat 1 (adv (hA h 2) n.toNat (0, 0, 0, -1)) (hA h 25)).2.1.2.2.2 → hF h' 3 5 = hF h 3 5 → Q (some (.inl (-1))) h') (hq1 : 0 ≤ n → n ≤ hF h 1 1 → hF h 3 5 < 6 → (rlA (hA h 2) n.toNat 1 (adv (hA h 2) n.toNat (0, 0, 0, -1)) (hA h 25)).2.1.2.2.2 = -1 → ∀ h', FQ (lwA (15 + Int.toNat (hF h 3 5))) nun1 (rdF2 5) nun2 h h' 0 0 → KT h' → hF h' 1 1 = 0 → hF h' 0 8 = -1 → hF h' 3 5 = hF h 3 5 + 1 → hA h' (15 + Int.toNat (hF h 3 5)) = (plr (hA h (15 + Int.toNat (hF h 3 5))) (rlA (hA h 2) n.toNat 1 (adv (hA h 2) n.toNat (0, 0, 0, -1)) (hA h 25)).2.2) → (∀ j, -2 ≤ (rlA (hA h 2) n.toNat 1 (adv (hA h 2) n.toNat (0, 0, 0, -1)) (hA h 25)).2.2 j ∧ (rlA (hA h 2) n.toNat 1 (adv (hA h 2) n.toNat (0, 0, 0, -1)) (hA h 25)).2.2 j ≤ 999) → Q (some (.inl (hF h 3 5))) h') : av_wp none cd_98 0 [some (.inr (.inr (.inl (some (0))))), some (.inl n), none] [] h Q := by
  refine gd_of (fun hg => ?_)
  obtain ⟨⟨lim0, t0, C⟩, ql, hz, x74⟩ := K
  have L := I.1
  obtain ⟨len, hl⟩ : ∃ v, hF h 1 1 = v := ⟨_, rfl⟩
  rw [hl] at ql
  have ln := ic_lc I
  have kn := ic_kc I
  obtain ⟨lnt, hlc⟩ : ∃ v, hF h 3 4 = v := ⟨_, rfl⟩
  obtain ⟨knt, hkc⟩ : ∃ v, hF h 3 5 = v := ⟨_, rfl⟩
  rw [hlc] at ln
  rw [hkc] at kn
  rw [hl] at hqA
  rw [hl, hkc] at hqB
  rw [hl, hkc] at hq0 hq1
  refine av_wp_sqF ck_98 1 (pc' := 1) (lv' := [some (.inr (.inr (.inl (some (0))))), some (.inl n), none]) (st' := [.inr (.inr (.inl (some (0))))]) (h' := h) rfl ?_
  refine wq_gr (p' := 4) (ck_98 _ _ rfl) rfl (congrArg Prod.fst (ly_k L 0 rfl)) rfl (ly_g L 0 0 1 rfl) ?_
  refine av_wp_sqF ck_98 1 (pc' := 5) (lv' := [some (.inr (.inr (.inl (some (0))))), some (.inl n), none]) (st' := [.inl n, .inr (.inr (.inl (some (1))))]) (h' := h) rfl ?_
  refine wq_cv (p' := 8) (av_qc (.invokevirtual 75) 80 1 0 6) 2 cd_80 [.inl n] (1) 6 [some (.inr (.inr (.inl (some (1))))), some (.inl n)] (ck_98 _ _ rfl) rfl rfl pp_80 rfl rfl rfl (congrArg Prod.fst (ly_k L 1 rfl)) rfl rfl rfl rfl ?_
  refine ct_80 L hl ql n (by omega) (fun v1 p2 => ?_)
  show av_wp _ cd_98 8 [some (.inr (.inr (.inl (some (0))))), some (.inl n), none] [.inl v1] h _
  refine wq_k1 (p' := 11) (ck_98 _ _ rfl) rfl ⟨by omega, by omega⟩ (fun c3 => ?_) (fun c4 => ?_)
  · have c3 : v1 ≠ (0) := c3
    refine av_wp_sqF ck_98 1 (pc' := 15) (lv' := [some (.inr (.inr (.inl (some (0))))), some (.inl n), none]) (st' := [.inr (.inr (.inl (some (0))))]) (h' := h) rfl ?_
    refine wq_gr (p' := 18) (ck_98 _ _ rfl) rfl (congrArg Prod.fst (ly_k L 0 rfl)) rfl (ly_g L 0 1 3 rfl) ?_
    refine wq_gi (p' := 21) (ck_98 _ _ rfl) rfl (congrArg Prod.fst (ly_k L 3 rfl)) rfl (hkc) ?_
    refine av_wp_sqF ck_98 1 (pc' := 23) (lv' := [some (.inr (.inr (.inl (some (0))))), some (.inl n), none]) (st' := [.inl (6), .inl knt]) (h' := h) rfl ?_
    refine wq_k2 (p' := 26) (ck_98 _ _ rfl) rfl ⟨by omega, by omega⟩ ⟨by omega, by omega⟩ (fun c5 => ?_) (fun c6 => ?_)
    · have c5 : knt < (6) := c5
      refine av_wp_sqF ck_98 1 (pc' := 30) (lv' := [some (.inr (.inr (.inl (some (0))))), some (.inl n), none]) (st' := [.inr (.inr (.inl (some (0))))]) (h' := h) rfl ?_
      refine wq_gr (p' := 33) (ck_98 _ _ rfl) rfl (congrArg Prod.fst (ly_k L 0 rfl)) rfl (ly_g L 0 0 1 rfl) ?_
      refine av_wp_sqF ck_98 1 (pc' := 34) (lv' := [some (.inr (.inr (.inl (some (0))))), some (.inl n), none]) (st' := [.inl n, .inr (.inr (.inl (some (1))))]) (h' := h) rfl ?_
      refine wq_cv (p' := 37) (av_qc (.invokevirtual 82) 81 1 0 6) 2 cd_81 [.inl n] (1) 6 [some (.inr (.inr (.inl (some (1))))), some (.inl n)] (ck_98 _ _ rfl) rfl rfl pp_81 rfl rfl rfl (congrArg Prod.fst (ly_k L 1 rfl)) rfl rfl rfl rfl ?_
      refine ct_81 C (FT_rf h) hl ql n (by omega) (fun h1 C1 F1 => ?_)
      show av_wp _ cd_98 37 [some (.inr (.inr (.inl (some (0))))), some (.inl n), none] [] h1 _
      refine av_wp_sqF ck_98 1 (pc' := 38) (lv' := [some (.inr (.inr (.inl (some (0))))), some (.inl n), none]) (st' := [.inr (.inr (.inl (some (0))))]) (h' := h1) rfl ?_
      refine wq_gr (p' := 41) (ck_98 _ _ rfl) rfl (congrArg Prod.fst (ly_k C1.1 0 rfl)) rfl (ly_g C1.1 0 4 24 rfl) ?_
      refine av_wp_sqF ck_98 1 (pc' := 42) (lv' := [some (.inr (.inr (.inl (some (0))))), some (.inl n), none]) (st' := [.inl (1), .inr (.inr (.inl (some (24))))]) (h' := h1) rfl ?_
      refine wq_cv (p' := 45) (av_qc (.invokevirtual 113) 65 1 0 4) 4 cd_65 [.inl (1)] (24) 4 [some (.inr (.inr (.inl (some (24))))), some (.inl (1)), none, none] (ck_98 _ _ rfl) rfl rfl pp_65 rfl rfl rfl (congrArg Prod.fst (ly_k C1.1 24 rfl)) rfl rfl rfl rfl ?_
      refine ct_65 C1 F1 ((1)) (by omega) (fun v h2 C2 F2 pv => ?_)
      show av_wp _ cd_98 45 [some (.inr (.inr (.inl (some (0))))), some (.inl n), none] [.inl v] h2 _
      refine av_wp_sqF ck_98 2 (pc' := 47) (lv' := [some (.inr (.inr (.inl (some (0))))), some (.inl n), some (.inl v)]) (st' := [.inr (.inr (.inl (some (0))))]) (h' := h2) rfl ?_
      refine wq_cv (p' := 50) (av_qc (.invokevirtual 89) 99 0 0 7) 1 cd_99 [] (0) 7 [some (.inr (.inr (.inl (some (0)))))] (ck_98 _ _ rfl) rfl rfl pp_99 rfl rfl rfl (congrArg Prod.fst (ly_k C2.1 0 rfl)) rfl rfl rfl rfl ?_
      refine ct_99 C2.1 C2 ?_
      show av_wp _ cd_98 50 [some (.inr (.inr (.inl (some (0))))), some (.inl n), some (.inl v)] [] (hwF (hwF h2 0 8 (rlA (hA h 2) n.toNat 1 (adv (hA h 2) n.toNat (0, 0, 0, -1)) (hA h 25)).2.1.2.2.2) 1 1 (0)) _
      refine av_wp_sqF ck_98 1 (pc' := 51) (lv' := [some (.inr (.inr (.inl (some (0))))), some (.inl n), some (.inl v)]) (st' := [.inl v]) (h' := (hwF (hwF h2 0 8 (rlA (hA h 2) n.toNat 1 (adv (hA h 2) n.toNat (0, 0, 0, -1)) (hA h 25)).2.1.2.2.2) 1 1 (0))) rfl ?_
      refine wq_k1 (p' := 54) (ck_98 _ _ rfl) rfl ⟨by omega, by omega⟩ (fun c7 => ?_) (fun c8 => ?_)
      · have c7 : v = (0) := c7
        refine av_wp_sqF ck_98 1 (pc' := 72) (lv' := [some (.inr (.inr (.inl (some (0))))), some (.inl n), some (.inl v)]) (st' := [.inl (-1)]) (h' := (hwF (hwF h2 0 8 (rlA (hA h 2) n.toNat 1 (adv (hA h 2) n.toNat (0, 0, 0, -1)) (hA h 25)).2.1.2.2.2) 1 1 (0))) rfl ?_
        refine av_wp_ret (v := some (.inl (-1))) (ck_98 _ _ rfl) rfl rfl ?_
        have q1 : FQ rdA2 nun1 (rdF2 5) nun2 h h2 0 0 := FQ_T F2 (Or.inl rfl) (Or.inr rfl) (fun _ => Or.inl rfl)
        have q2 := FQ_tr (FQ_tr q1 (FQ_wF (o := 0) (f := 8) (v := (rlA (hA h 2) n.toNat 1 (adv (hA h 2) n.toNat (0, 0, 0, -1)) (hA h 25)).2.1.2.2.2) (Or.inr (Or.inr (Or.inl ⟨rfl, rfl⟩))))) (FQ_wF (o := 1) (f := 1) (v := (0)) (Or.inl rfl))
        have k3 : KT (hwF (hwF h2 0 8 (rlA (hA h 2) n.toNat 1 (adv (hA h 2) n.toNat (0, 0, 0, -1)) (hA h 25)).2.1.2.2.2) 1 1 (0)) := KT_of (CT_wF0 (CT_wF0 C2 (Or.inl (by decide))) (Or.inr rfl)) (by show (0 : Int) ≤ 0 ∧ (0 : Int) ≤ 900; omega) hz (CX_fq hg q2 (fun j z => by unfold rdF2 at z; omega) (fun j z => z) (fun z => by unfold rdA2 at z; omega) x74)
        exact hq0 (by omega) (by omega) (by omega) (by omega) (hwF (hwF h2 0 8 (rlA (hA h 2) n.toNat 1 (adv (hA h 2) n.toNat (0, 0, 0, -1)) (hA h 25)).2.1.2.2.2) 1 1 (0)) q2 k3 rfl rfl ((F2.2.2.2.2.2.1 3 5 rfl).trans hkc)
      · have c8 : v ≠ (0) := c8
        refine av_wp_sqF ck_98 1 (pc' := 55) (lv' := [some (.inr (.inr (.inl (some (0))))), some (.inl n), some (.inl v)]) (st' := [.inr (.inr (.inl (some (0))))]) (h' := (hwF (hwF h2 0 8 (rlA (hA h 2) n.toNat 1 (adv (hA h 2) n.toNat (0, 0, 0, -1)) (hA h 25)).2.1.2.2.2) 1 1 (0))) rfl ?_
        refine wq_gr (p' := 58) (ck_98 _ _ rfl) rfl (congrArg Prod.fst (ly_k C2.1 0 rfl)) rfl (ly_g C2.1 0 1 3 rfl) ?_
        refine av_wp_sqF ck_98 1 (pc' := 59) (lv' := [some (.inr (.inr (.inl (some (0))))), some (.inl n), some (.inl v)]) (st' := [.inr (.inr (.inl (some (0)))), .inr (.inr (.inl (some (3))))]) (h' := (hwF (hwF h2 0 8 (rlA (hA h 2) n.toNat 1 (adv (hA h 2) n.toNat (0, 0, 0, -1)) (hA h 25)).2.1.2.2.2) 1 1 (0))) rfl ?_
        refine wq_gr (p' := 62) (ck_98 _ _ rfl) rfl (congrArg Prod.fst (ly_k C2.1 0 rfl)) rfl (ly_g C2.1 0 4 24 rfl) ?_
        refine wq_gr (p' := 65) (ck_98 _ _ rfl) rfl (congrArg Prod.fst (ly_k C2.1 24 rfl)) rfl (ly_g C2.1 24 1 25 rfl) ?_
        refine wq_cv (p' := 68) (av_qc (.invokevirtual 127) 73 1 0 5) 2 cd_73 [.inr (.inr (.inl (some (25))))] (3) 5 [some (.inr (.inr (.inl (some (3))))), some (.inr (.inr (.inl (some (25)))))] (ck_98 _ _ rfl) rfl rfl pp_73 rfl rfl rfl (congrArg Prod.fst (ly_k C2.1 3 rfl)) rfl rfl rfl rfl ?_
        refine ct_73 (h := (hwF (hwF h2 0 8 (rlA (hA h 2) n.toNat 1 (adv (hA h 2) n.toNat (0, 0, 0, -1)) (hA h 25)).2.1.2.2.2) 1 1 (0))) C2.1 (l := knt) (((F2.2.2.2.2.2.1 3 5 rfl).trans hkc)) (by omega) (by omega) (fun j => by rw [show hA (hwF (hwF h2 0 8 (rlA (hA h 2) n.toNat 1 (adv (hA h 2) n.toNat (0, 0, 0, -1)) (hA h 25)).2.1.2.2.2) 1 1 (0)) 25 = hA h2 25 from rfl, ct_d C2]; exact ct_dv C2 j) ?_
        show av_wp _ cd_98 68 [some (.inr (.inr (.inl (some (0))))), some (.inl n), some (.inl v)] [.inl knt] (hwF (hrw (hwF (hwF h2 0 8 (rlA (hA h 2) n.toNat 1 (adv (hA h 2) n.toNat (0, 0, 0, -1)) (hA h 25)).2.1.2.2.2) 1 1 (0)) (15 + Int.toNat knt) (plr (hA (hwF (hwF h2 0 8 (rlA (hA h 2) n.toNat 1 (adv (hA h 2) n.toNat (0, 0, 0, -1)) (hA h 25)).2.1.2.2.2) 1 1 (0)) (15 + Int.toNat knt)) (hA (hwF (hwF h2 0 8 (rlA (hA h 2) n.toNat 1 (adv (hA h 2) n.toNat (0, 0, 0, -1)) (hA h 25)).2.1.2.2.2) 1 1 (0)) 25))) 3 5 (knt + 1)) _
        refine av_wp_sqF ck_98 1 (pc' := 72) (lv' := [some (.inr (.inr (.inl (some (0))))), some (.inl n), some (.inl v)]) (st' := [.inl knt]) (h' := (hwF (hrw (hwF (hwF h2 0 8 (rlA (hA h 2) n.toNat 1 (adv (hA h 2) n.toNat (0, 0, 0, -1)) (hA h 25)).2.1.2.2.2) 1 1 (0)) (15 + Int.toNat knt) (plr (hA (hwF (hwF h2 0 8 (rlA (hA h 2) n.toNat 1 (adv (hA h 2) n.toNat (0, 0, 0, -1)) (hA h 25)).2.1.2.2.2) 1 1 (0)) (15 + Int.toNat knt)) (hA (hwF (hwF h2 0 8 (rlA (hA h 2) n.toNat 1 (adv (hA h 2) n.toNat (0, 0, 0, -1)) (hA h 25)).2.1.2.2.2) 1 1 (0)) 25))) 3 5 (knt + 1))) rfl ?_
        refine av_wp_ret (v := some (.inl knt)) (ck_98 _ _ rfl) rfl rfl ?_
        have q1 : FQ rdA2 nun1 (rdF2 5) nun2 h h2 0 0 := FQ_T F2 (Or.inl rfl) (Or.inr rfl) (fun _ => Or.inl rfl)
        have q2 := FQ_tr (FQ_tr q1 (FQ_wF (o := 0) (f := 8) (v := (rlA (hA h 2) n.toNat 1 (adv (hA h 2) n.toNat (0, 0, 0, -1)) (hA h 25)).2.1.2.2.2) (Or.inr (Or.inr (Or.inl ⟨rfl, rfl⟩))))) (FQ_wF (o := 1) (f := 1) (v := (0)) (Or.inl rfl))
        have q3 : FQ (lwA (15 + Int.toNat knt)) nun1 (rdF2 5) nun2 h (hwF (hrw (hwF (hwF h2 0 8 (rlA (hA h 2) n.toNat 1 (adv (hA h 2) n.toNat (0, 0, 0, -1)) (hA h 25)).2.1.2.2.2) 1 1 (0)) (15 + Int.toNat knt) (plr (hA (hwF (hwF h2 0 8 (rlA (hA h 2) n.toNat 1 (adv (hA h 2) n.toNat (0, 0, 0, -1)) (hA h 25)).2.1.2.2.2) 1 1 (0)) (15 + Int.toNat knt)) (hA (hwF (hwF h2 0 8 (rlA (hA h 2) n.toNat 1 (adv (hA h 2) n.toNat (0, 0, 0, -1)) (hA h 25)).2.1.2.2.2) 1 1 (0)) 25))) 3 5 (knt + 1)) 0 0 := FQ_tr (FQ_tr (rd_lw q2) (FQ_rw (Or.inr (Or.inr rfl)))) (FQ_wF (Or.inr (Or.inr (Or.inr ⟨rfl, rfl⟩))))
        have k3 : KT (hwF (hrw (hwF (hwF h2 0 8 (rlA (hA h 2) n.toNat 1 (adv (hA h 2) n.toNat (0, 0, 0, -1)) (hA h 25)).2.1.2.2.2) 1 1 (0)) (15 + Int.toNat knt) (plr (hA (hwF (hwF h2 0 8 (rlA (hA h 2) n.toNat 1 (adv (hA h 2) n.toNat (0, 0, 0, -1)) (hA h 25)).2.1.2.2.2) 1 1 (0)) (15 + Int.toNat knt)) (hA (hwF (hwF h2 0 8 (rlA (hA h 2) n.toNat 1 (adv (hA h 2) n.toNat (0, 0, 0, -1)) (hA h 25)).2.1.2.2.2) 1 1 (0)) 25))) 3 5 (knt + 1)) := KT_of (CT_wF0 (CT_rw (CT_wF0 (CT_wF0 C2 (Or.inl (by decide))) (Or.inr rfl)) (by omega) (by omega) (by omega)) (Or.inl (by decide))) (by show (0 : Int) ≤ 0 ∧ (0 : Int) ≤ 900; omega) hz (CX_fq hg q3 (fun j z => by unfold rdF2 at z; omega) (fun j z => z) (fun z => by unfold lwA at z; omega) x74)
        have ea : hA h2 (15 + Int.toNat knt) = hA h (15 + Int.toNat knt) := F2.2.2.2.2.2.2 _ (by omega) (by omega)
        have er : hA (hwF (hrw (hwF (hwF h2 0 8 (rlA (hA h 2) n.toNat 1 (adv (hA h 2) n.toNat (0, 0, 0, -1)) (hA h 25)).2.1.2.2.2) 1 1 (0)) (15 + Int.toNat knt) (plr (hA (hwF (hwF h2 0 8 (rlA (hA h 2) n.toNat 1 (adv (hA h 2) n.toNat (0, 0, 0, -1)) (hA h 25)).2.1.2.2.2) 1 1 (0)) (15 + Int.toNat knt)) (hA (hwF (hwF h2 0 8 (rlA (hA h 2) n.toNat 1 (adv (hA h 2) n.toNat (0, 0, 0, -1)) (hA h 25)).2.1.2.2.2) 1 1 (0)) 25))) 3 5 (knt + 1)) (15 + Int.toNat knt) = (plr (hA h (15 + Int.toNat knt)) (rlA (hA h 2) n.toNat 1 (adv (hA h 2) n.toNat (0, 0, 0, -1)) (hA h 25)).2.2) := by
          rw [← ea, ← ct_d C2]
          exact hrw_s
        exact hq1 (by omega) (by omega) (by omega) (by omega) (hwF (hrw (hwF (hwF h2 0 8 (rlA (hA h 2) n.toNat 1 (adv (hA h 2) n.toNat (0, 0, 0, -1)) (hA h 25)).2.1.2.2.2) 1 1 (0)) (15 + Int.toNat knt) (plr (hA (hwF (hwF h2 0 8 (rlA (hA h 2) n.toNat 1 (adv (hA h 2) n.toNat (0, 0, 0, -1)) (hA h 25)).2.1.2.2.2) 1 1 (0)) (15 + Int.toNat knt)) (hA (hwF (hwF h2 0 8 (rlA (hA h 2) n.toNat 1 (adv (hA h 2) n.toNat (0, 0, 0, -1)) (hA h 25)).2.1.2.2.2) 1 1 (0)) 25))) 3 5 (knt + 1)) q3 k3 rfl (show (rlA (hA h 2) n.toNat 1 (adv (hA h 2) n.toNat (0, 0, 0, -1)) (hA h 25)).2.1.2.2.2 = -1 by omega) rfl er (ct_dv C2)
    · have c6 : (6) ≤ knt := c6
      refine av_wp_sqF ck_98 1 (pc' := 28) (lv' := [some (.inr (.inr (.inl (some (0))))), some (.inl n), none]) (st' := [.inl (-3)]) (h' := h) rfl ?_
      refine av_wp_ret (v := some (.inl (-3))) (ck_98 _ _ rfl) rfl rfl ?_
      exact hqB (by omega) (by omega) (by omega)
  · have c4 : v1 = (0) := c4
    refine av_wp_sqF ck_98 1 (pc' := 13) (lv' := [some (.inr (.inr (.inl (some (0))))), some (.inl n), none]) (st' := [.inl (-2)]) (h' := h) rfl ?_
    refine av_wp_ret (v := some (.inl (-2))) (ck_98 _ _ rfl) rfl rfl ?_
    exact hqA (by omega)
end
