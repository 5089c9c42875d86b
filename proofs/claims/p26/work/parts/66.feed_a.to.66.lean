section
/-! FEED -/
/-- the same heap but for some rows and fields -/
def FE (eA : Nat → Prop) (eF : Nat → Nat → Prop) (g h : av_H) : Prop := h.1 = g.1 ∧ h.2.1 = g.2.1 ∧ hK h = hK g ∧ hG h = hG g ∧ hR h = hR g ∧ (∀ a, ¬ eA a → hA h a = hA g a) ∧ (∀ o f, ¬ eF o f → hF h o f = hF g o f)
theorem FE_rf {eA : Nat → Prop} {eF : Nat → Nat → Prop} (h : av_H) : FE eA eF h h := ⟨rfl, rfl, rfl, rfl, rfl, fun _ _ => rfl, fun _ _ _ => rfl⟩
theorem FE_tr {eA : Nat → Prop} {eF : Nat → Nat → Prop} {g h k : av_H} (a : FE eA eF g h) (c : FE eA eF h k) : FE eA eF g k := ⟨c.1.trans a.1, c.2.1.trans a.2.1, c.2.2.1.trans a.2.2.1, c.2.2.2.1.trans a.2.2.2.1, c.2.2.2.2.1.trans a.2.2.2.2.1, fun q e => (c.2.2.2.2.2.1 q e).trans (a.2.2.2.2.2.1 q e), fun q j e => (c.2.2.2.2.2.2 q j e).trans (a.2.2.2.2.2.2 q j e)⟩
theorem FE_ly {eA : Nat → Prop} {eF : Nat → Nat → Prop} {g h : av_H} (a : FE eA eF g h) (L : LY g) : LY h := ⟨fun q hq => by rw [a.2.2.1]; exact L.1 q hq, fun o f q e => by rw [a.2.2.2.1]; exact L.2.1 o f q e, fun i hi => by rw [a.2.2.2.2.1]; exact L.2.2.1 i hi, fun i hi => by rw [a.2.2.2.2.1]; exact L.2.2.2 i hi⟩
theorem FE_fq {eA eR : Nat → Prop} {eF eG : Nat → Nat → Prop} {g h : av_H} (a : FE eA eF g h) : FQ eA eR eF eG g h 0 0 := ⟨a.1, a.2.1, fun q _ => ⟨congrFun a.2.2.1 q, fun j _ => congrFun (congrFun a.2.2.2.1 q) j, fun e => a.2.2.2.2.2.1 q e, fun _ => congrFun a.2.2.2.2.1 q, fun j e => a.2.2.2.2.2.2 q j e⟩⟩
theorem FE_wA {eA : Nat → Prop} {eF : Nat → Nat → Prop} {g h : av_H} {a j : Nat} {v : Int} (F : FE eA eF g h) (e : eA a) : FE eA eF g (hwA h a j v) := ⟨F.1, F.2.1, F.2.2.1, F.2.2.2.1, F.2.2.2.2.1, fun q hq => (hA_ne (fun z => by rw [z] at hq; exact hq e)).trans (F.2.2.2.2.2.1 q hq), F.2.2.2.2.2.2⟩
theorem FE_wF {eA : Nat → Prop} {eF : Nat → Nat → Prop} {g h : av_H} {o f : Nat} {v : Int} (F : FE eA eF g h) (e : eF o f) : FE eA eF g (hwF h o f v) := ⟨F.1, F.2.1, F.2.2.1, F.2.2.2.1, F.2.2.2.2.1, F.2.2.2.2.2.1, fun q j hq => by
  show av_u2 h.2.2.2.2.1 o f v q j = _
  have hne : ¬ (q = o ∧ j = f) := fun z => by rw [z.1, z.2] at hq; exact hq e
  rw [av_u2, if_neg hne]
  exact F.2.2.2.2.2.2 q j hq⟩
def bt (v s : Int) : Int := av_b (av_b (av_shr v s))
theorem bt_r (v s : Int) : -128 ≤ bt v s ∧ bt v s ≤ 127 := by
  unfold bt av_b
  have h1 := Int.le_bmod (x := Int.bmod (av_shr v s) 256) (m := 256) (by decide)
  have h2 := Int.bmod_lt (x := Int.bmod (av_shr v s) 256) (m := 256) (by decide)
  constructor
  · have h3 : -((256 : Nat) : Int) / 2 = -128 := by decide
    omega
  · have h3 : (((256 : Nat) : Int) + 1) / 2 = 128 := by decide
    omega
def put4 (f : Nat → Int) (l : Nat) (v : Int) : Nat → Int := av_u1 (av_u1 (av_u1 (av_u1 f l (bt v 24)) (l + 1) (bt v 16)) (l + 2) (bt v 8)) (l + 3) (bt v 0)
def fd5 (f : Nat → Int) (l : Nat) (a b c d e : Int) : Nat → Int := put4 (put4 (put4 (put4 (put4 f l a) (l + 4) b) (l + 8) c) (l + 12) d) (l + 16) e
theorem u1_bd {f : Nat → Int} {i : Nat} {v : Int} (hf : ∀ j, -128 ≤ f j ∧ f j ≤ 127) (hv : -128 ≤ v ∧ v ≤ 127) (j : Nat) : -128 ≤ av_u1 f i v j ∧ av_u1 f i v j ≤ 127 := by
  unfold av_u1
  split
  · exact hv
  · exact hf j
theorem put4_bd {f : Nat → Int} {l : Nat} {v : Int} (hf : ∀ j, -128 ≤ f j ∧ f j ≤ 127) (j : Nat) : -128 ≤ put4 f l v j ∧ put4 f l v j ≤ 127 := u1_bd (u1_bd (u1_bd (u1_bd hf (bt_r _ _)) (bt_r _ _)) (bt_r _ _)) (bt_r _ _) j
theorem fd5_bd {f : Nat → Int} {l : Nat} {a b c d e : Int} (hf : ∀ j, -128 ≤ f j ∧ f j ≤ 127) (j : Nat) : -128 ≤ fd5 f l a b c d e j ∧ fd5 f l a b c d e j ≤ 127 := put4_bd (put4_bd (put4_bd (put4_bd (put4_bd hf)))) j
theorem hA_wu {h : av_H} {a j : Nat} {v : Int} : hA (hwA h a j v) a = av_u1 (hA h a) j v := by
  funext k
  show av_u2 h.2.2.2.1 a j v a k = av_u1 (hA h a) j v k
  unfold av_u2 av_u1
  by_cases e : k = j
  · rw [if_pos ⟨rfl, e⟩, if_pos e]
  · rw [if_neg (fun z => e z.2), if_neg e]
def fdA (a : Nat) : Prop := a = 2
def fdF (o f : Nat) : Prop := o = 1 ∧ f = 1

set_option maxRecDepth 100000 in
set_option maxHeartbeats 4000000 in
theorem ct_79 {h : av_H} (L : LY h) {l : Nat} (hl : hF h 1 1 = (l : Int)) (h896 : l ≤ 896) (x : Int) {Q : Option av_V → av_H → Prop} (hq : ∀ h', FE fdA fdF h h' → hA h' 2 = put4 (hA h 2) l x → hF h' 1 1 = ((l + 4 : Nat) : Int) → Q none h') : av_wp none cd_79 0 [some (.inr (.inr (.inl (some (1))))), some (.inl x), none] [] h Q := by
  refine av_wp_sqF ck_79 5 (pc' := 8) (lv' := [some (.inr (.inr (.inl (some (1))))), some (.inl x), some (.inl (24))]) (st' := [.inr (.inr (.inl (some (1))))]) (h' := h) rfl ?_
  refine wq_gi (p' := 11) (ck_79 _ _ rfl) rfl (congrArg Prod.fst (ly_k L 1 rfl)) rfl (hl) ?_
  refine av_wp_sqF ck_79 1 (pc' := 14) (lv' := [some (.inr (.inr (.inl (some (1))))), some (.inl x), some (.inl (24))]) (st' := [.inl (900), .inl (l : Int)]) (h' := h) rfl ?_
  refine wq_k2 (p' := 17) (ck_79 _ _ rfl) rfl ⟨by omega, by omega⟩ ⟨by omega, by omega⟩ (fun c1 => ?_) (fun c2 => ?_)
  · have c1 : (900) ≤ (l : Int) := c1
    exfalso; omega
  · have c2 : (l : Int) < (900) := c2
    refine av_wp_sqF ck_79 1 (pc' := 18) (lv' := [some (.inr (.inr (.inl (some (1))))), some (.inl x), some (.inl (24))]) (st' := [.inr (.inr (.inl (some (1))))]) (h' := h) rfl ?_
    refine wq_gr (p' := 21) (ck_79 _ _ rfl) rfl (congrArg Prod.fst (ly_k L 1 rfl)) rfl (ly_g L 1 0 2 rfl) ?_
    refine av_wp_sqF ck_79 1 (pc' := 22) (lv' := [some (.inr (.inr (.inl (some (1))))), some (.inl x), some (.inl (24))]) (st' := [.inr (.inr (.inl (some (1)))), .inr (.inr (.inl (some (2))))]) (h' := h) rfl ?_
    refine wq_gi (p' := 25) (ck_79 _ _ rfl) rfl (congrArg Prod.fst (ly_k L 1 rfl)) rfl (hl) ?_
    refine av_wp_sqF ck_79 4 (pc' := 29) (lv' := [some (.inr (.inr (.inl (some (1))))), some (.inl x), some (.inl (24))]) (st' := [.inl (av_b (av_shr x (24))), .inl (l : Int), .inr (.inr (.inl (some (2))))]) (h' := h) rfl ?_
    refine wq_bs (p' := 30) (n := 900) (ck_79 _ _ rfl) rfl (ly_k L 2 rfl) (by omega) ?_
    obtain ⟨f6, q7⟩ : ∃ f, f = av_u1 (hA h 2) (l + 0) (bt x 24) := ⟨_, rfl⟩
    have a4 : hA (hwA h 2 (Int.toNat ((l : Int))) (av_b (av_b (av_shr x (24))))) 2 = f6 := by rw [hA_wu, show Int.toNat ((l : Int)) = l + 0 by omega, q7]; rfl
    have F5 := FE_wA (eF := fdF) (j := Int.toNat ((l : Int))) (v := av_b (av_b (av_shr x (24)))) (FE_rf h) (show fdA 2 from rfl)
    have eh3 : hF (hwA h 2 (Int.toNat ((l : Int))) (av_b (av_b (av_shr x (24))))) 1 1 = (l : Int) := hl
    generalize hwA h 2 (Int.toNat ((l : Int))) (av_b (av_b (av_shr x (24)))) = h3 at a4 F5 eh3 ⊢
    refine av_wp_sqF ck_79 2 (pc' := 32) (lv' := [some (.inr (.inr (.inl (some (1))))), some (.inl x), some (.inl (24))]) (st' := [.inr (.inr (.inl (some (1)))), .inr (.inr (.inl (some (1))))]) (h' := h3) rfl ?_
    refine wq_gi (p' := 35) (ck_79 _ _ rfl) rfl (congrArg Prod.fst (ly_k (FE_ly F5 L) 1 rfl)) rfl (eh3) ?_
    refine av_wp_sqF ck_79 2 (pc' := 37) (lv' := [some (.inr (.inr (.inl (some (1))))), some (.inl x), some (.inl (24))]) (st' := [.inl ((l : Int) + (1)), .inr (.inr (.inl (some (1))))]) (h' := h3) rfl ?_
    refine wq_pi (p' := 40) (ck_79 _ _ rfl) rfl (congrArg Prod.fst (ly_k (FE_ly F5 L) 1 rfl)) rfl ?_
    rw [show ((l : Int) + (1)) = ((l + 1 : Nat) : Int) by omega]
    have a9 : hA (hwF h3 1 1 ((l + 1 : Nat) : Int)) 2 = f6 := a4
    have F10 := FE_wF (v := ((l + 1 : Nat) : Int)) F5 (show fdF 1 1 from ⟨rfl, rfl⟩)
    have eh8 : hF (hwF h3 1 1 ((l + 1 : Nat) : Int)) 1 1 = ((l + 1 : Nat) : Int) := hF_self
    generalize hwF h3 1 1 ((l + 1 : Nat) : Int) = h8 at a9 F10 eh8 ⊢
    clear a4 F5 eh3
    refine av_wp_sqF ck_79 5 (pc' := 8) (lv' := [some (.inr (.inr (.inl (some (1))))), some (.inl x), some (.inl (16))]) (st' := [.inr (.inr (.inl (some (1))))]) (h' := h8) rfl ?_
    refine wq_gi (p' := 11) (ck_79 _ _ rfl) rfl (congrArg Prod.fst (ly_k (FE_ly F10 L) 1 rfl)) rfl (eh8) ?_
    refine av_wp_sqF ck_79 1 (pc' := 14) (lv' := [some (.inr (.inr (.inl (some (1))))), some (.inl x), some (.inl (16))]) (st' := [.inl (900), .inl ((l + 1 : Nat) : Int)]) (h' := h8) rfl ?_
    refine wq_k2 (p' := 17) (ck_79 _ _ rfl) rfl ⟨by omega, by omega⟩ ⟨by omega, by omega⟩ (fun c11 => ?_) (fun c12 => ?_)
    · have c11 : (900) ≤ ((l + 1 : Nat) : Int) := c11
      refine av_wp_ret (v := none) (ck_79 _ _ rfl) rfl rfl ?_
      exfalso; omega
    · have c12 : ((l + 1 : Nat) : Int) < (900) := c12
      refine av_wp_sqF ck_79 1 (pc' := 18) (lv' := [some (.inr (.inr (.inl (some (1))))), some (.inl x), some (.inl (16))]) (st' := [.inr (.inr (.inl (some (1))))]) (h' := h8) rfl ?_
      refine wq_gr (p' := 21) (ck_79 _ _ rfl) rfl (congrArg Prod.fst (ly_k (FE_ly F10 L) 1 rfl)) rfl (ly_g (FE_ly F10 L) 1 0 2 rfl) ?_
      refine av_wp_sqF ck_79 1 (pc' := 22) (lv' := [some (.inr (.inr (.inl (some (1))))), some (.inl x), some (.inl (16))]) (st' := [.inr (.inr (.inl (some (1)))), .inr (.inr (.inl (some (2))))]) (h' := h8) rfl ?_
      refine wq_gi (p' := 25) (ck_79 _ _ rfl) rfl (congrArg Prod.fst (ly_k (FE_ly F10 L) 1 rfl)) rfl (eh8) ?_
      refine av_wp_sqF ck_79 4 (pc' := 29) (lv' := [some (.inr (.inr (.inl (some (1))))), some (.inl x), some (.inl (16))]) (st' := [.inl (av_b (av_shr x (16))), .inl ((l + 1 : Nat) : Int), .inr (.inr (.inl (some (2))))]) (h' := h8) rfl ?_
      refine wq_bs (p' := 30) (n := 900) (ck_79 _ _ rfl) rfl (ly_k (FE_ly F10 L) 2 rfl) (by omega) ?_
      obtain ⟨f16, q17⟩ : ∃ f, f = av_u1 f6 (l + 1) (bt x 16) := ⟨_, rfl⟩
      have a14 : hA (hwA h8 2 (Int.toNat (((l + 1 : Nat) : Int))) (av_b (av_b (av_shr x (16))))) 2 = f16 := by rw [hA_wu, a9, show Int.toNat (((l + 1 : Nat) : Int)) = l + 1 by omega, q17]; rfl
      have F15 := FE_wA (eF := fdF) (j := Int.toNat (((l + 1 : Nat) : Int))) (v := av_b (av_b (av_shr x (16)))) F10 (show fdA 2 from rfl)
      have eh13 : hF (hwA h8 2 (Int.toNat (((l + 1 : Nat) : Int))) (av_b (av_b (av_shr x (16))))) 1 1 = ((l + 1 : Nat) : Int) := eh8
      generalize hwA h8 2 (Int.toNat (((l + 1 : Nat) : Int))) (av_b (av_b (av_shr x (16)))) = h13 at a14 F15 eh13 ⊢
      clear a9 F10 eh8
      refine av_wp_sqF ck_79 2 (pc' := 32) (lv' := [some (.inr (.inr (.inl (some (1))))), some (.inl x), some (.inl (16))]) (st' := [.inr (.inr (.inl (some (1)))), .inr (.inr (.inl (some (1))))]) (h' := h13) rfl ?_
      refine wq_gi (p' := 35) (ck_79 _ _ rfl) rfl (congrArg Prod.fst (ly_k (FE_ly F15 L) 1 rfl)) rfl (eh13) ?_
      refine av_wp_sqF ck_79 2 (pc' := 37) (lv' := [some (.inr (.inr (.inl (some (1))))), some (.inl x), some (.inl (16))]) (st' := [.inl (((l + 1 : Nat) : Int) + (1)), .inr (.inr (.inl (some (1))))]) (h' := h13) rfl ?_
      refine wq_pi (p' := 40) (ck_79 _ _ rfl) rfl (congrArg Prod.fst (ly_k (FE_ly F15 L) 1 rfl)) rfl ?_
      rw [show (((l + 1 : Nat) : Int) + (1)) = ((l + 2 : Nat) : Int) by omega]
      have a19 : hA (hwF h13 1 1 ((l + 2 : Nat) : Int)) 2 = f16 := a14
      have F20 := FE_wF (v := ((l + 2 : Nat) : Int)) F15 (show fdF 1 1 from ⟨rfl, rfl⟩)
      have eh18 : hF (hwF h13 1 1 ((l + 2 : Nat) : Int)) 1 1 = ((l + 2 : Nat) : Int) := hF_self
      generalize hwF h13 1 1 ((l + 2 : Nat) : Int) = h18 at a19 F20 eh18 ⊢
      clear a14 F15 eh13
      refine av_wp_sqF ck_79 5 (pc' := 8) (lv' := [some (.inr (.inr (.inl (some (1))))), some (.inl x), some (.inl (8))]) (st' := [.inr (.inr (.inl (some (1))))]) (h' := h18) rfl ?_
      refine wq_gi (p' := 11) (ck_79 _ _ rfl) rfl (congrArg Prod.fst (ly_k (FE_ly F20 L) 1 rfl)) rfl (eh18) ?_
      refine av_wp_sqF ck_79 1 (pc' := 14) (lv' := [some (.inr (.inr (.inl (some (1))))), some (.inl x), some (.inl (8))]) (st' := [.inl (900), .inl ((l + 2 : Nat) : Int)]) (h' := h18) rfl ?_
      refine wq_k2 (p' := 17) (ck_79 _ _ rfl) rfl ⟨by omega, by omega⟩ ⟨by omega, by omega⟩ (fun c21 => ?_) (fun c22 => ?_)
      · have c21 : (900) ≤ ((l + 2 : Nat) : Int) := c21
        refine av_wp_ret (v := none) (ck_79 _ _ rfl) rfl rfl ?_
        exfalso; omega
      · have c22 : ((l + 2 : Nat) : Int) < (900) := c22
        refine av_wp_sqF ck_79 1 (pc' := 18) (lv' := [some (.inr (.inr (.inl (some (1))))), some (.inl x), some (.inl (8))]) (st' := [.inr (.inr (.inl (some (1))))]) (h' := h18) rfl ?_
        refine wq_gr (p' := 21) (ck_79 _ _ rfl) rfl (congrArg Prod.fst (ly_k (FE_ly F20 L) 1 rfl)) rfl (ly_g (FE_ly F20 L) 1 0 2 rfl) ?_
        refine av_wp_sqF ck_79 1 (pc' := 22) (lv' := [some (.inr (.inr (.inl (some (1))))), some (.inl x), some (.inl (8))]) (st' := [.inr (.inr (.inl (some (1)))), .inr (.inr (.inl (some (2))))]) (h' := h18) rfl ?_
        refine wq_gi (p' := 25) (ck_79 _ _ rfl) rfl (congrArg Prod.fst (ly_k (FE_ly F20 L) 1 rfl)) rfl (eh18) ?_
        refine av_wp_sqF ck_79 4 (pc' := 29) (lv' := [some (.inr (.inr (.inl (some (1))))), some (.inl x), some (.inl (8))]) (st' := [.inl (av_b (av_shr x (8))), .inl ((l + 2 : Nat) : Int), .inr (.inr (.inl (some (2))))]) (h' := h18) rfl ?_
        refine wq_bs (p' := 30) (n := 900) (ck_79 _ _ rfl) rfl (ly_k (FE_ly F20 L) 2 rfl) (by omega) ?_
        obtain ⟨f26, q27⟩ : ∃ f, f = av_u1 f16 (l + 2) (bt x 8) := ⟨_, rfl⟩
        have a24 : hA (hwA h18 2 (Int.toNat (((l + 2 : Nat) : Int))) (av_b (av_b (av_shr x (8))))) 2 = f26 := by rw [hA_wu, a19, show Int.toNat (((l + 2 : Nat) : Int)) = l + 2 by omega, q27]; rfl
        have F25 := FE_wA (eF := fdF) (j := Int.toNat (((l + 2 : Nat) : Int))) (v := av_b (av_b (av_shr x (8)))) F20 (show fdA 2 from rfl)
        have eh23 : hF (hwA h18 2 (Int.toNat (((l + 2 : Nat) : Int))) (av_b (av_b (av_shr x (8))))) 1 1 = ((l + 2 : Nat) : Int) := eh18
        generalize hwA h18 2 (Int.toNat (((l + 2 : Nat) : Int))) (av_b (av_b (av_shr x (8)))) = h23 at a24 F25 eh23 ⊢
        clear a19 F20 eh18
        refine av_wp_sqF ck_79 2 (pc' := 32) (lv' := [some (.inr (.inr (.inl (some (1))))), some (.inl x), some (.inl (8))]) (st' := [.inr (.inr (.inl (some (1)))), .inr (.inr (.inl (some (1))))]) (h' := h23) rfl ?_
        refine wq_gi (p' := 35) (ck_79 _ _ rfl) rfl (congrArg Prod.fst (ly_k (FE_ly F25 L) 1 rfl)) rfl (eh23) ?_
        refine av_wp_sqF ck_79 2 (pc' := 37) (lv' := [some (.inr (.inr (.inl (some (1))))), some (.inl x), some (.inl (8))]) (st' := [.inl (((l + 2 : Nat) : Int) + (1)), .inr (.inr (.inl (some (1))))]) (h' := h23) rfl ?_
        refine wq_pi (p' := 40) (ck_79 _ _ rfl) rfl (congrArg Prod.fst (ly_k (FE_ly F25 L) 1 rfl)) rfl ?_
        rw [show (((l + 2 : Nat) : Int) + (1)) = ((l + 3 : Nat) : Int) by omega]
        have a29 : hA (hwF h23 1 1 ((l + 3 : Nat) : Int)) 2 = f26 := a24
        have F30 := FE_wF (v := ((l + 3 : Nat) : Int)) F25 (show fdF 1 1 from ⟨rfl, rfl⟩)
        have eh28 : hF (hwF h23 1 1 ((l + 3 : Nat) : Int)) 1 1 = ((l + 3 : Nat) : Int) := hF_self
        generalize hwF h23 1 1 ((l + 3 : Nat) : Int) = h28 at a29 F30 eh28 ⊢
        clear a24 F25 eh23
        refine av_wp_sqF ck_79 5 (pc' := 8) (lv' := [some (.inr (.inr (.inl (some (1))))), some (.inl x), some (.inl (0))]) (st' := [.inr (.inr (.inl (some (1))))]) (h' := h28) rfl ?_
        refine wq_gi (p' := 11) (ck_79 _ _ rfl) rfl (congrArg Prod.fst (ly_k (FE_ly F30 L) 1 rfl)) rfl (eh28) ?_
        refine av_wp_sqF ck_79 1 (pc' := 14) (lv' := [some (.inr (.inr (.inl (some (1))))), some (.inl x), some (.inl (0))]) (st' := [.inl (900), .inl ((l + 3 : Nat) : Int)]) (h' := h28) rfl ?_
        refine wq_k2 (p' := 17) (ck_79 _ _ rfl) rfl ⟨by omega, by omega⟩ ⟨by omega, by omega⟩ (fun c31 => ?_) (fun c32 => ?_)
        · have c31 : (900) ≤ ((l + 3 : Nat) : Int) := c31
          refine av_wp_ret (v := none) (ck_79 _ _ rfl) rfl rfl ?_
          exfalso; omega
        · have c32 : ((l + 3 : Nat) : Int) < (900) := c32
          refine av_wp_sqF ck_79 1 (pc' := 18) (lv' := [some (.inr (.inr (.inl (some (1))))), some (.inl x), some (.inl (0))]) (st' := [.inr (.inr (.inl (some (1))))]) (h' := h28) rfl ?_
          refine wq_gr (p' := 21) (ck_79 _ _ rfl) rfl (congrArg Prod.fst (ly_k (FE_ly F30 L) 1 rfl)) rfl (ly_g (FE_ly F30 L) 1 0 2 rfl) ?_
          refine av_wp_sqF ck_79 1 (pc' := 22) (lv' := [some (.inr (.inr (.inl (some (1))))), some (.inl x), some (.inl (0))]) (st' := [.inr (.inr (.inl (some (1)))), .inr (.inr (.inl (some (2))))]) (h' := h28) rfl ?_
          refine wq_gi (p' := 25) (ck_79 _ _ rfl) rfl (congrArg Prod.fst (ly_k (FE_ly F30 L) 1 rfl)) rfl (eh28) ?_
          refine av_wp_sqF ck_79 4 (pc' := 29) (lv' := [some (.inr (.inr (.inl (some (1))))), some (.inl x), some (.inl (0))]) (st' := [.inl (av_b (av_shr x (0))), .inl ((l + 3 : Nat) : Int), .inr (.inr (.inl (some (2))))]) (h' := h28) rfl ?_
          refine wq_bs (p' := 30) (n := 900) (ck_79 _ _ rfl) rfl (ly_k (FE_ly F30 L) 2 rfl) (by omega) ?_
          obtain ⟨f36, q37⟩ : ∃ f, f = av_u1 f26 (l + 3) (bt x 0) := ⟨_, rfl⟩
          have a34 : hA (hwA h28 2 (Int.toNat (((l + 3 : Nat) : Int))) (av_b (av_b (av_shr x (0))))) 2 = f36 := by rw [hA_wu, a29, show Int.toNat (((l + 3 : Nat) : Int)) = l + 3 by omega, q37]; rfl
          have F35 := FE_wA (eF := fdF) (j := Int.toNat (((l + 3 : Nat) : Int))) (v := av_b (av_b (av_shr x (0)))) F30 (show fdA 2 from rfl)
          have eh33 : hF (hwA h28 2 (Int.toNat (((l + 3 : Nat) : Int))) (av_b (av_b (av_shr x (0))))) 1 1 = ((l + 3 : Nat) : Int) := eh28
          generalize hwA h28 2 (Int.toNat (((l + 3 : Nat) : Int))) (av_b (av_b (av_shr x (0)))) = h33 at a34 F35 eh33 ⊢
          clear a29 F30 eh28
          have p38 : f36 = put4 (hA h 2) (l + 0) x := by rw [q37, q27, q17, q7]; rfl
          clear q37 q27 q17 q7
          refine av_wp_sqF ck_79 2 (pc' := 32) (lv' := [some (.inr (.inr (.inl (some (1))))), some (.inl x), some (.inl (0))]) (st' := [.inr (.inr (.inl (some (1)))), .inr (.inr (.inl (some (1))))]) (h' := h33) rfl ?_
          refine wq_gi (p' := 35) (ck_79 _ _ rfl) rfl (congrArg Prod.fst (ly_k (FE_ly F35 L) 1 rfl)) rfl (eh33) ?_
          refine av_wp_sqF ck_79 2 (pc' := 37) (lv' := [some (.inr (.inr (.inl (some (1))))), some (.inl x), some (.inl (0))]) (st' := [.inl (((l + 3 : Nat) : Int) + (1)), .inr (.inr (.inl (some (1))))]) (h' := h33) rfl ?_
          refine wq_pi (p' := 40) (ck_79 _ _ rfl) rfl (congrArg Prod.fst (ly_k (FE_ly F35 L) 1 rfl)) rfl ?_
          rw [show (((l + 3 : Nat) : Int) + (1)) = ((l + 4 : Nat) : Int) by omega]
          have a40 : hA (hwF h33 1 1 ((l + 4 : Nat) : Int)) 2 = f36 := a34
          have F41 := FE_wF (v := ((l + 4 : Nat) : Int)) F35 (show fdF 1 1 from ⟨rfl, rfl⟩)
          have eh39 : hF (hwF h33 1 1 ((l + 4 : Nat) : Int)) 1 1 = ((l + 4 : Nat) : Int) := hF_self
          generalize hwF h33 1 1 ((l + 4 : Nat) : Int) = h39 at a40 F41 eh39 ⊢
          clear a34 F35 eh33
          refine av_wp_sqF ck_79 4 (pc' := 46) (lv' := [some (.inr (.inr (.inl (some (1))))), some (.inl x), some (.inl (-8))]) (st' := []) (h' := h39) rfl ?_
          refine av_wp_ret (v := none) (ck_79 _ _ rfl) rfl rfl ?_
          exact hq h39 F41 (by rw [a40]; exact p38) eh39

set_option maxRecDepth 100000 in
set_option maxHeartbeats 4000000 in
theorem ct_94 {h : av_H} (L : LY h) {l : Nat} (hl : hF h 1 1 = (l : Int)) (h900 : l ≤ 900) (a b c d e : Int) {Q : Option av_V → av_H → Prop} (hqA : 880 < l → Q (some (.inl (-1))) h) (hq : l ≤ 880 → ∀ h', FE fdA fdF h h' → hA h' 2 = fd5 (hA h 2) l a b c d e → hF h' 1 1 = (l : Int) + 20 → Q (some (.inl ((l : Int) + 20))) h') : av_wp none cd_94 0 [some (.inr (.inr (.inl (some (0))))), some (.inl a), some (.inl b), some (.inl c), some (.inl d), some (.inl e)] [] h Q := by
  refine av_wp_sqF ck_94 1 (pc' := 1) (lv' := [some (.inr (.inr (.inl (some (0))))), some (.inl a), some (.inl b), some (.inl c), some (.inl d), some (.inl e)]) (st' := [.inr (.inr (.inl (some (0))))]) (h' := h) rfl ?_
  refine wq_gr (p' := 4) (ck_94 _ _ rfl) rfl (congrArg Prod.fst (ly_k L 0 rfl)) rfl (ly_g L 0 0 1 rfl) ?_
  refine wq_gi (p' := 7) (ck_94 _ _ rfl) rfl (congrArg Prod.fst (ly_k L 1 rfl)) rfl (hl) ?_
  refine av_wp_sqF ck_94 3 (pc' := 13) (lv' := [some (.inr (.inr (.inl (some (0))))), some (.inl a), some (.inl b), some (.inl c), some (.inl d), some (.inl e)]) (st' := [.inl (900), .inl ((l : Int) + (20))]) (h' := h) rfl ?_
  refine wq_k2 (p' := 16) (ck_94 _ _ rfl) rfl ⟨by omega, by omega⟩ ⟨by omega, by omega⟩ (fun c1 => ?_) (fun c2 => ?_)
  · have c1 : ((l : Int) + (20)) ≤ (900) := c1
    refine av_wp_sqF ck_94 1 (pc' := 19) (lv' := [some (.inr (.inr (.inl (some (0))))), some (.inl a), some (.inl b), some (.inl c), some (.inl d), some (.inl e)]) (st' := [.inr (.inr (.inl (some (0))))]) (h' := h) rfl ?_
    refine wq_gr (p' := 22) (ck_94 _ _ rfl) rfl (congrArg Prod.fst (ly_k L 0 rfl)) rfl (ly_g L 0 0 1 rfl) ?_
    refine av_wp_sqF ck_94 1 (pc' := 23) (lv' := [some (.inr (.inr (.inl (some (0))))), some (.inl a), some (.inl b), some (.inl c), some (.inl d), some (.inl e)]) (st' := [.inl a, .inr (.inr (.inl (some (1))))]) (h' := h) rfl ?_
    refine wq_cv (p' := 26) (av_qc (.invokevirtual 71) 79 1 0 6) 3 cd_79 [.inl a] (1) 6 [some (.inr (.inr (.inl (some (1))))), some (.inl a), none] (ck_94 _ _ rfl) rfl rfl pp_79 rfl rfl rfl (congrArg Prod.fst (ly_k L 1 rfl)) rfl rfl rfl rfl ?_
    refine ct_79 L (l := l + 0) (hl) (by omega) a (fun h3 F4 a5 e6 => ?_)
    have F7 := FE_tr (FE_rf h) F4
    have a8 := a5
    show av_wp _ cd_94 26 [some (.inr (.inr (.inl (some (0))))), some (.inl a), some (.inl b), some (.inl c), some (.inl d), some (.inl e)] [] h3 _
    refine av_wp_sqF ck_94 1 (pc' := 27) (lv' := [some (.inr (.inr (.inl (some (0))))), some (.inl a), some (.inl b), some (.inl c), some (.inl d), some (.inl e)]) (st' := [.inr (.inr (.inl (some (0))))]) (h' := h3) rfl ?_
    refine wq_gr (p' := 30) (ck_94 _ _ rfl) rfl (congrArg Prod.fst (ly_k (FE_ly F7 L) 0 rfl)) rfl (ly_g (FE_ly F7 L) 0 0 1 rfl) ?_
    refine av_wp_sqF ck_94 1 (pc' := 31) (lv' := [some (.inr (.inr (.inl (some (0))))), some (.inl a), some (.inl b), some (.inl c), some (.inl d), some (.inl e)]) (st' := [.inl b, .inr (.inr (.inl (some (1))))]) (h' := h3) rfl ?_
    refine wq_cv (p' := 34) (av_qc (.invokevirtual 71) 79 1 0 6) 3 cd_79 [.inl b] (1) 6 [some (.inr (.inr (.inl (some (1))))), some (.inl b), none] (ck_94 _ _ rfl) rfl rfl pp_79 rfl rfl rfl (congrArg Prod.fst (ly_k (FE_ly F7 L) 1 rfl)) rfl rfl rfl rfl ?_
    refine ct_79 (FE_ly F7 L) (l := l + 4) ((show hF h3 1 1 = ((l + 4 : Nat) : Int) from e6)) (by omega) b (fun h9 F10 a11 e12 => ?_)
    have F13 := FE_tr F7 F10
    have a14 : hA h9 2 = put4 (put4 (hA h 2) (l + 0) a) (l + 4) b := by rw [a11, a8]
    show av_wp _ cd_94 34 [some (.inr (.inr (.inl (some (0))))), some (.inl a), some (.inl b), some (.inl c), some (.inl d), some (.inl e)] [] h9 _
    refine av_wp_sqF ck_94 1 (pc' := 35) (lv' := [some (.inr (.inr (.inl (some (0))))), some (.inl a), some (.inl b), some (.inl c), some (.inl d), some (.inl e)]) (st' := [.inr (.inr (.inl (some (0))))]) (h' := h9) rfl ?_
    refine wq_gr (p' := 38) (ck_94 _ _ rfl) rfl (congrArg Prod.fst (ly_k (FE_ly F13 L) 0 rfl)) rfl (ly_g (FE_ly F13 L) 0 0 1 rfl) ?_
    refine av_wp_sqF ck_94 1 (pc' := 39) (lv' := [some (.inr (.inr (.inl (some (0))))), some (.inl a), some (.inl b), some (.inl c), some (.inl d), some (.inl e)]) (st' := [.inl c, .inr (.inr (.inl (some (1))))]) (h' := h9) rfl ?_
    refine wq_cv (p' := 42) (av_qc (.invokevirtual 71) 79 1 0 6) 3 cd_79 [.inl c] (1) 6 [some (.inr (.inr (.inl (some (1))))), some (.inl c), none] (ck_94 _ _ rfl) rfl rfl pp_79 rfl rfl rfl (congrArg Prod.fst (ly_k (FE_ly F13 L) 1 rfl)) rfl rfl rfl rfl ?_
    refine ct_79 (FE_ly F13 L) (l := l + 8) ((show hF h9 1 1 = ((l + 8 : Nat) : Int) from e12)) (by omega) c (fun h15 F16 a17 e18 => ?_)
    have F19 := FE_tr F13 F16
    have a20 : hA h15 2 = put4 (put4 (put4 (hA h 2) (l + 0) a) (l + 4) b) (l + 8) c := by rw [a17, a14]
    show av_wp _ cd_94 42 [some (.inr (.inr (.inl (some (0))))), some (.inl a), some (.inl b), some (.inl c), some (.inl d), some (.inl e)] [] h15 _
    refine av_wp_sqF ck_94 1 (pc' := 43) (lv' := [some (.inr (.inr (.inl (some (0))))), some (.inl a), some (.inl b), some (.inl c), some (.inl d), some (.inl e)]) (st' := [.inr (.inr (.inl (some (0))))]) (h' := h15) rfl ?_
    refine wq_gr (p' := 46) (ck_94 _ _ rfl) rfl (congrArg Prod.fst (ly_k (FE_ly F19 L) 0 rfl)) rfl (ly_g (FE_ly F19 L) 0 0 1 rfl) ?_
    refine av_wp_sqF ck_94 1 (pc' := 48) (lv' := [some (.inr (.inr (.inl (some (0))))), some (.inl a), some (.inl b), some (.inl c), some (.inl d), some (.inl e)]) (st' := [.inl d, .inr (.inr (.inl (some (1))))]) (h' := h15) rfl ?_
    refine wq_cv (p' := 51) (av_qc (.invokevirtual 71) 79 1 0 6) 3 cd_79 [.inl d] (1) 6 [some (.inr (.inr (.inl (some (1))))), some (.inl d), none] (ck_94 _ _ rfl) rfl rfl pp_79 rfl rfl rfl (congrArg Prod.fst (ly_k (FE_ly F19 L) 1 rfl)) rfl rfl rfl rfl ?_
    refine ct_79 (FE_ly F19 L) (l := l + 12) ((show hF h15 1 1 = ((l + 12 : Nat) : Int) from e18)) (by omega) d (fun h21 F22 a23 e24 => ?_)
    have F25 := FE_tr F19 F22
    have a26 : hA h21 2 = put4 (put4 (put4 (put4 (hA h 2) (l + 0) a) (l + 4) b) (l + 8) c) (l + 12) d := by rw [a23, a20]
    show av_wp _ cd_94 51 [some (.inr (.inr (.inl (some (0))))), some (.inl a), some (.inl b), some (.inl c), some (.inl d), some (.inl e)] [] h21 _
    refine av_wp_sqF ck_94 1 (pc' := 52) (lv' := [some (.inr (.inr (.inl (some (0))))), some (.inl a), some (.inl b), some (.inl c), some (.inl d), some (.inl e)]) (st' := [.inr (.inr (.inl (some (0))))]) (h' := h21) rfl ?_
    refine wq_gr (p' := 55) (ck_94 _ _ rfl) rfl (congrArg Prod.fst (ly_k (FE_ly F25 L) 0 rfl)) rfl (ly_g (FE_ly F25 L) 0 0 1 rfl) ?_
    refine av_wp_sqF ck_94 1 (pc' := 57) (lv' := [some (.inr (.inr (.inl (some (0))))), some (.inl a), some (.inl b), some (.inl c), some (.inl d), some (.inl e)]) (st' := [.inl e, .inr (.inr (.inl (some (1))))]) (h' := h21) rfl ?_
    refine wq_cv (p' := 60) (av_qc (.invokevirtual 71) 79 1 0 6) 3 cd_79 [.inl e] (1) 6 [some (.inr (.inr (.inl (some (1))))), some (.inl e), none] (ck_94 _ _ rfl) rfl rfl pp_79 rfl rfl rfl (congrArg Prod.fst (ly_k (FE_ly F25 L) 1 rfl)) rfl rfl rfl rfl ?_
    refine ct_79 (FE_ly F25 L) (l := l + 16) ((show hF h21 1 1 = ((l + 16 : Nat) : Int) from e24)) (by omega) e (fun h27 F28 a29 e30 => ?_)
    have F31 := FE_tr F25 F28
    have a32 : hA h27 2 = put4 (put4 (put4 (put4 (put4 (hA h 2) (l + 0) a) (l + 4) b) (l + 8) c) (l + 12) d) (l + 16) e := by rw [a29, a26]
    show av_wp _ cd_94 60 [some (.inr (.inr (.inl (some (0))))), some (.inl a), some (.inl b), some (.inl c), some (.inl d), some (.inl e)] [] h27 _
    refine av_wp_sqF ck_94 1 (pc' := 61) (lv' := [some (.inr (.inr (.inl (some (0))))), some (.inl a), some (.inl b), some (.inl c), some (.inl d), some (.inl e)]) (st' := [.inr (.inr (.inl (some (0))))]) (h' := h27) rfl ?_
    refine wq_gr (p' := 64) (ck_94 _ _ rfl) rfl (congrArg Prod.fst (ly_k (FE_ly F31 L) 0 rfl)) rfl (ly_g (FE_ly F31 L) 0 0 1 rfl) ?_
    refine wq_gi (p' := 67) (ck_94 _ _ rfl) rfl (congrArg Prod.fst (ly_k (FE_ly F31 L) 1 rfl)) rfl ((show hF h27 1 1 = ((l + 20 : Nat) : Int) from e30)) ?_
    refine av_wp_ret (v := some (.inl ((l + 20 : Nat) : Int))) (ck_94 _ _ rfl) rfl rfl ?_
    rw [show ((l + 20 : Nat) : Int) = (l : Int) + 20 by omega]
    exact hq (by omega) h27 F31 a32 ((show hF h27 1 1 = ((l + 20 : Nat) : Int) from e30).trans (by omega))
  · have c2 : (900) < ((l : Int) + (20)) := c2
    refine av_wp_sqF ck_94 1 (pc' := 17) (lv' := [some (.inr (.inr (.inl (some (0))))), some (.inl a), some (.inl b), some (.inl c), some (.inl d), some (.inl e)]) (st' := [.inl (-1)]) (h' := h) rfl ?_
    refine av_wp_ret (v := some (.inl (-1))) (ck_94 _ _ rfl) rfl rfl ?_
    exact hqA (by omega)

def mfA (a : Nat) : Prop := a = 94
def mfF (o f : Nat) : Prop := o = 77 ∧ f = 17
end
section
set_option maxRecDepth 100000 in
set_option maxHeartbeats 4000000 in
theorem ct_128 {h : av_H} (L : LY h) {l : Nat} (hl : hF h 77 17 = (l : Int)) (h900 : l ≤ 900) (a b c d e : Int) {Q : Option av_V → av_H → Prop} (hqA : 880 < l → Q (some (.inl (-1))) h) (hq : l ≤ 880 → ∀ h', FE mfA mfF h h' → hA h' 94 = fd5 (hA h 94) l a b c d e → hF h' 77 17 = (l : Int) + 20 → Q (some (.inl ((l : Int) + 20))) h') : av_wp none cd_128 0 [some (.inr (.inr (.inl (some (77))))), some (.inl a), some (.inl b), some (.inl c), some (.inl d), some (.inl e), none, none] [] h Q := by
  refine av_wp_sqF ck_128 1 (pc' := 1) (lv' := [some (.inr (.inr (.inl (some (77))))), some (.inl a), some (.inl b), some (.inl c), some (.inl d), some (.inl e), none, none]) (st' := [.inr (.inr (.inl (some (77))))]) (h' := h) rfl ?_
  refine wq_gi (p' := 4) (ck_128 _ _ rfl) rfl (congrArg Prod.fst (ly_k L 77 rfl)) rfl (hl) ?_
  refine av_wp_sqF ck_128 3 (pc' := 10) (lv' := [some (.inr (.inr (.inl (some (77))))), some (.inl a), some (.inl b), some (.inl c), some (.inl d), some (.inl e), none, none]) (st' := [.inl (900), .inl ((l : Int) + (20))]) (h' := h) rfl ?_
  refine wq_k2 (p' := 13) (ck_128 _ _ rfl) rfl ⟨by omega, by omega⟩ ⟨by omega, by omega⟩ (fun c1 => ?_) (fun c2 => ?_)
  · have c1 : ((l : Int) + (20)) ≤ (900) := c1
    refine av_wp_sqF ck_128 12 (pc' := 74) (lv' := [some (.inr (.inr (.inl (some (77))))), some (.inl a), some (.inl b), some (.inl c), some (.inl d), some (.inl e), some (.inl (0)), some (.inl a)]) (st' := [.inr (.inr (.inl (some (77))))]) (h' := h) rfl ?_
    refine wq_gr (p' := 77) (ck_128 _ _ rfl) rfl (congrArg Prod.fst (ly_k L 77 rfl)) rfl (ly_g L 77 16 94 rfl) ?_
    refine av_wp_sqF ck_128 1 (pc' := 78) (lv' := [some (.inr (.inr (.inl (some (77))))), some (.inl a), some (.inl b), some (.inl c), some (.inl d), some (.inl e), some (.inl (0)), some (.inl a)]) (st' := [.inr (.inr (.inl (some (77)))), .inr (.inr (.inl (some (94))))]) (h' := h) rfl ?_
    refine wq_gi (p' := 81) (ck_128 _ _ rfl) rfl (congrArg Prod.fst (ly_k L 77 rfl)) rfl (hl) ?_
    refine av_wp_sqF ck_128 5 (pc' := 90) (lv' := [some (.inr (.inr (.inl (some (77))))), some (.inl a), some (.inl b), some (.inl c), some (.inl d), some (.inl e), some (.inl (0)), some (.inl a)]) (st' := [.inl (4), .inl (0), .inl (8), .inl (24), .inl a, .inl (l : Int), .inr (.inr (.inl (some (94))))]) (h' := h) rfl ?_
    refine wq_rm (p' := 91) (ck_128 _ _ rfl) rfl ⟨by decide, by decide⟩ (by decide) (fun v3 e4 => ?_)
    have e4 : v3 = 0 := e4 ⟨by decide, by decide⟩
    subst e4
    refine av_wp_sqF ck_128 4 (pc' := 95) (lv' := [some (.inr (.inr (.inl (some (77))))), some (.inl a), some (.inl b), some (.inl c), some (.inl d), some (.inl e), some (.inl (0)), some (.inl a)]) (st' := [.inl (av_b (av_shr a (24))), .inl (l : Int), .inr (.inr (.inl (some (94))))]) (h' := h) rfl ?_
    refine wq_bs (p' := 96) (n := 900) (ck_128 _ _ rfl) rfl (ly_k L 94 rfl) (by omega) ?_
    obtain ⟨f8, q9⟩ : ∃ f, f = av_u1 (hA h 94) (l + 0) (bt a 24) := ⟨_, rfl⟩
    have a6 : hA (hwA h 94 (Int.toNat ((l : Int))) (av_b (av_b (av_shr a (24))))) 94 = f8 := by rw [hA_wu, show Int.toNat ((l : Int)) = l + 0 by omega, q9]; rfl
    have F7 := FE_wA (eF := mfF) (j := Int.toNat ((l : Int))) (v := av_b (av_b (av_shr a (24)))) (FE_rf h) (show mfA 94 from rfl)
    have eh5 : hF (hwA h 94 (Int.toNat ((l : Int))) (av_b (av_b (av_shr a (24))))) 77 17 = (l : Int) := hl
    generalize hwA h 94 (Int.toNat ((l : Int))) (av_b (av_b (av_shr a (24)))) = h5 at a6 F7 eh5 ⊢
    refine av_wp_sqF ck_128 2 (pc' := 98) (lv' := [some (.inr (.inr (.inl (some (77))))), some (.inl a), some (.inl b), some (.inl c), some (.inl d), some (.inl e), some (.inl (0)), some (.inl a)]) (st' := [.inr (.inr (.inl (some (77)))), .inr (.inr (.inl (some (77))))]) (h' := h5) rfl ?_
    refine wq_gi (p' := 101) (ck_128 _ _ rfl) rfl (congrArg Prod.fst (ly_k (FE_ly F7 L) 77 rfl)) rfl (eh5) ?_
    refine av_wp_sqF ck_128 2 (pc' := 103) (lv' := [some (.inr (.inr (.inl (some (77))))), some (.inl a), some (.inl b), some (.inl c), some (.inl d), some (.inl e), some (.inl (0)), some (.inl a)]) (st' := [.inl ((l : Int) + (1)), .inr (.inr (.inl (some (77))))]) (h' := h5) rfl ?_
    refine wq_pi (p' := 106) (ck_128 _ _ rfl) rfl (congrArg Prod.fst (ly_k (FE_ly F7 L) 77 rfl)) rfl ?_
    rw [show ((l : Int) + (1)) = ((l + 1 : Nat) : Int) by omega]
    have a11 : hA (hwF h5 77 17 ((l + 1 : Nat) : Int)) 94 = f8 := a6
    have F12 := FE_wF (v := ((l + 1 : Nat) : Int)) F7 (show mfF 77 17 from ⟨rfl, rfl⟩)
    have eh10 : hF (hwF h5 77 17 ((l + 1 : Nat) : Int)) 77 17 = ((l + 1 : Nat) : Int) := hF_self
    generalize hwF h5 77 17 ((l + 1 : Nat) : Int) = h10 at a11 F12 eh10 ⊢
    clear a6 F7 eh5
    refine av_wp_sqF ck_128 12 (pc' := 74) (lv' := [some (.inr (.inr (.inl (some (77))))), some (.inl a), some (.inl b), some (.inl c), some (.inl d), some (.inl e), some (.inl (1)), some (.inl a)]) (st' := [.inr (.inr (.inl (some (77))))]) (h' := h10) rfl ?_
    refine wq_gr (p' := 77) (ck_128 _ _ rfl) rfl (congrArg Prod.fst (ly_k (FE_ly F12 L) 77 rfl)) rfl (ly_g (FE_ly F12 L) 77 16 94 rfl) ?_
    refine av_wp_sqF ck_128 1 (pc' := 78) (lv' := [some (.inr (.inr (.inl (some (77))))), some (.inl a), some (.inl b), some (.inl c), some (.inl d), some (.inl e), some (.inl (1)), some (.inl a)]) (st' := [.inr (.inr (.inl (some (77)))), .inr (.inr (.inl (some (94))))]) (h' := h10) rfl ?_
    refine wq_gi (p' := 81) (ck_128 _ _ rfl) rfl (congrArg Prod.fst (ly_k (FE_ly F12 L) 77 rfl)) rfl (eh10) ?_
    refine av_wp_sqF ck_128 5 (pc' := 90) (lv' := [some (.inr (.inr (.inl (some (77))))), some (.inl a), some (.inl b), some (.inl c), some (.inl d), some (.inl e), some (.inl (1)), some (.inl a)]) (st' := [.inl (4), .inl (1), .inl (8), .inl (24), .inl a, .inl ((l + 1 : Nat) : Int), .inr (.inr (.inl (some (94))))]) (h' := h10) rfl ?_
    refine wq_rm (p' := 91) (ck_128 _ _ rfl) rfl ⟨by decide, by decide⟩ (by decide) (fun v13 e14 => ?_)
    have e14 : v13 = 1 := e14 ⟨by decide, by decide⟩
    subst e14
    refine av_wp_sqF ck_128 4 (pc' := 95) (lv' := [some (.inr (.inr (.inl (some (77))))), some (.inl a), some (.inl b), some (.inl c), some (.inl d), some (.inl e), some (.inl (1)), some (.inl a)]) (st' := [.inl (av_b (av_shr a (16))), .inl ((l + 1 : Nat) : Int), .inr (.inr (.inl (some (94))))]) (h' := h10) rfl ?_
    refine wq_bs (p' := 96) (n := 900) (ck_128 _ _ rfl) rfl (ly_k (FE_ly F12 L) 94 rfl) (by omega) ?_
    obtain ⟨f18, q19⟩ : ∃ f, f = av_u1 f8 (l + 1) (bt a 16) := ⟨_, rfl⟩
    have a16 : hA (hwA h10 94 (Int.toNat (((l + 1 : Nat) : Int))) (av_b (av_b (av_shr a (16))))) 94 = f18 := by rw [hA_wu, a11, show Int.toNat (((l + 1 : Nat) : Int)) = l + 1 by omega, q19]; rfl
    have F17 := FE_wA (eF := mfF) (j := Int.toNat (((l + 1 : Nat) : Int))) (v := av_b (av_b (av_shr a (16)))) F12 (show mfA 94 from rfl)
    have eh15 : hF (hwA h10 94 (Int.toNat (((l + 1 : Nat) : Int))) (av_b (av_b (av_shr a (16))))) 77 17 = ((l + 1 : Nat) : Int) := eh10
    generalize hwA h10 94 (Int.toNat (((l + 1 : Nat) : Int))) (av_b (av_b (av_shr a (16)))) = h15 at a16 F17 eh15 ⊢
    clear a11 F12 eh10
    refine av_wp_sqF ck_128 2 (pc' := 98) (lv' := [some (.inr (.inr (.inl (some (77))))), some (.inl a), some (.inl b), some (.inl c), some (.inl d), some (.inl e), some (.inl (1)), some (.inl a)]) (st' := [.inr (.inr (.inl (some (77)))), .inr (.inr (.inl (some (77))))]) (h' := h15) rfl ?_
    refine wq_gi (p' := 101) (ck_128 _ _ rfl) rfl (congrArg Prod.fst (ly_k (FE_ly F17 L) 77 rfl)) rfl (eh15) ?_
    refine av_wp_sqF ck_128 2 (pc' := 103) (lv' := [some (.inr (.inr (.inl (some (77))))), some (.inl a), some (.inl b), some (.inl c), some (.inl d), some (.inl e), some (.inl (1)), some (.inl a)]) (st' := [.inl (((l + 1 : Nat) : Int) + (1)), .inr (.inr (.inl (some (77))))]) (h' := h15) rfl ?_
    refine wq_pi (p' := 106) (ck_128 _ _ rfl) rfl (congrArg Prod.fst (ly_k (FE_ly F17 L) 77 rfl)) rfl ?_
    rw [show (((l + 1 : Nat) : Int) + (1)) = ((l + 2 : Nat) : Int) by omega]
    have a21 : hA (hwF h15 77 17 ((l + 2 : Nat) : Int)) 94 = f18 := a16
    have F22 := FE_wF (v := ((l + 2 : Nat) : Int)) F17 (show mfF 77 17 from ⟨rfl, rfl⟩)
    have eh20 : hF (hwF h15 77 17 ((l + 2 : Nat) : Int)) 77 17 = ((l + 2 : Nat) : Int) := hF_self
    generalize hwF h15 77 17 ((l + 2 : Nat) : Int) = h20 at a21 F22 eh20 ⊢
    clear a16 F17 eh15
    refine av_wp_sqF ck_128 12 (pc' := 74) (lv' := [some (.inr (.inr (.inl (some (77))))), some (.inl a), some (.inl b), some (.inl c), some (.inl d), some (.inl e), some (.inl (2)), some (.inl a)]) (st' := [.inr (.inr (.inl (some (77))))]) (h' := h20) rfl ?_
    refine wq_gr (p' := 77) (ck_128 _ _ rfl) rfl (congrArg Prod.fst (ly_k (FE_ly F22 L) 77 rfl)) rfl (ly_g (FE_ly F22 L) 77 16 94 rfl) ?_
    refine av_wp_sqF ck_128 1 (pc' := 78) (lv' := [some (.inr (.inr (.inl (some (77))))), some (.inl a), some (.inl b), some (.inl c), some (.inl d), some (.inl e), some (.inl (2)), some (.inl a)]) (st' := [.inr (.inr (.inl (some (77)))), .inr (.inr (.inl (some (94))))]) (h' := h20) rfl ?_
    refine wq_gi (p' := 81) (ck_128 _ _ rfl) rfl (congrArg Prod.fst (ly_k (FE_ly F22 L) 77 rfl)) rfl (eh20) ?_
    refine av_wp_sqF ck_128 5 (pc' := 90) (lv' := [some (.inr (.inr (.inl (some (77))))), some (.inl a), some (.inl b), some (.inl c), some (.inl d), some (.inl e), some (.inl (2)), some (.inl a)]) (st' := [.inl (4), .inl (2), .inl (8), .inl (24), .inl a, .inl ((l + 2 : Nat) : Int), .inr (.inr (.inl (some (94))))]) (h' := h20) rfl ?_
    refine wq_rm (p' := 91) (ck_128 _ _ rfl) rfl ⟨by decide, by decide⟩ (by decide) (fun v23 e24 => ?_)
    have e24 : v23 = 2 := e24 ⟨by decide, by decide⟩
    subst e24
    refine av_wp_sqF ck_128 4 (pc' := 95) (lv' := [some (.inr (.inr (.inl (some (77))))), some (.inl a), some (.inl b), some (.inl c), some (.inl d), some (.inl e), some (.inl (2)), some (.inl a)]) (st' := [.inl (av_b (av_shr a (8))), .inl ((l + 2 : Nat) : Int), .inr (.inr (.inl (some (94))))]) (h' := h20) rfl ?_
    refine wq_bs (p' := 96) (n := 900) (ck_128 _ _ rfl) rfl (ly_k (FE_ly F22 L) 94 rfl) (by omega) ?_
    obtain ⟨f28, q29⟩ : ∃ f, f = av_u1 f18 (l + 2) (bt a 8) := ⟨_, rfl⟩
    have a26 : hA (hwA h20 94 (Int.toNat (((l + 2 : Nat) : Int))) (av_b (av_b (av_shr a (8))))) 94 = f28 := by rw [hA_wu, a21, show Int.toNat (((l + 2 : Nat) : Int)) = l + 2 by omega, q29]; rfl
    have F27 := FE_wA (eF := mfF) (j := Int.toNat (((l + 2 : Nat) : Int))) (v := av_b (av_b (av_shr a (8)))) F22 (show mfA 94 from rfl)
    have eh25 : hF (hwA h20 94 (Int.toNat (((l + 2 : Nat) : Int))) (av_b (av_b (av_shr a (8))))) 77 17 = ((l + 2 : Nat) : Int) := eh20
    generalize hwA h20 94 (Int.toNat (((l + 2 : Nat) : Int))) (av_b (av_b (av_shr a (8)))) = h25 at a26 F27 eh25 ⊢
    clear a21 F22 eh20
    refine av_wp_sqF ck_128 2 (pc' := 98) (lv' := [some (.inr (.inr (.inl (some (77))))), some (.inl a), some (.inl b), some (.inl c), some (.inl d), some (.inl e), some (.inl (2)), some (.inl a)]) (st' := [.inr (.inr (.inl (some (77)))), .inr (.inr (.inl (some (77))))]) (h' := h25) rfl ?_
    refine wq_gi (p' := 101) (ck_128 _ _ rfl) rfl (congrArg Prod.fst (ly_k (FE_ly F27 L) 77 rfl)) rfl (eh25) ?_
    refine av_wp_sqF ck_128 2 (pc' := 103) (lv' := [some (.inr (.inr (.inl (some (77))))), some (.inl a), some (.inl b), some (.inl c), some (.inl d), some (.inl e), some (.inl (2)), some (.inl a)]) (st' := [.inl (((l + 2 : Nat) : Int) + (1)), .inr (.inr (.inl (some (77))))]) (h' := h25) rfl ?_
    refine wq_pi (p' := 106) (ck_128 _ _ rfl) rfl (congrArg Prod.fst (ly_k (FE_ly F27 L) 77 rfl)) rfl ?_
    rw [show (((l + 2 : Nat) : Int) + (1)) = ((l + 3 : Nat) : Int) by omega]
    have a31 : hA (hwF h25 77 17 ((l + 3 : Nat) : Int)) 94 = f28 := a26
    have F32 := FE_wF (v := ((l + 3 : Nat) : Int)) F27 (show mfF 77 17 from ⟨rfl, rfl⟩)
    have eh30 : hF (hwF h25 77 17 ((l + 3 : Nat) : Int)) 77 17 = ((l + 3 : Nat) : Int) := hF_self
    generalize hwF h25 77 17 ((l + 3 : Nat) : Int) = h30 at a31 F32 eh30 ⊢
    clear a26 F27 eh25
    refine av_wp_sqF ck_128 12 (pc' := 74) (lv' := [some (.inr (.inr (.inl (some (77))))), some (.inl a), some (.inl b), some (.inl c), some (.inl d), some (.inl e), some (.inl (3)), some (.inl a)]) (st' := [.inr (.inr (.inl (some (77))))]) (h' := h30) rfl ?_
    refine wq_gr (p' := 77) (ck_128 _ _ rfl) rfl (congrArg Prod.fst (ly_k (FE_ly F32 L) 77 rfl)) rfl (ly_g (FE_ly F32 L) 77 16 94 rfl) ?_
    refine av_wp_sqF ck_128 1 (pc' := 78) (lv' := [some (.inr (.inr (.inl (some (77))))), some (.inl a), some (.inl b), some (.inl c), some (.inl d), some (.inl e), some (.inl (3)), some (.inl a)]) (st' := [.inr (.inr (.inl (some (77)))), .inr (.inr (.inl (some (94))))]) (h' := h30) rfl ?_
    refine wq_gi (p' := 81) (ck_128 _ _ rfl) rfl (congrArg Prod.fst (ly_k (FE_ly F32 L) 77 rfl)) rfl (eh30) ?_
    refine av_wp_sqF ck_128 5 (pc' := 90) (lv' := [some (.inr (.inr (.inl (some (77))))), some (.inl a), some (.inl b), some (.inl c), some (.inl d), some (.inl e), some (.inl (3)), some (.inl a)]) (st' := [.inl (4), .inl (3), .inl (8), .inl (24), .inl a, .inl ((l + 3 : Nat) : Int), .inr (.inr (.inl (some (94))))]) (h' := h30) rfl ?_
    refine wq_rm (p' := 91) (ck_128 _ _ rfl) rfl ⟨by decide, by decide⟩ (by decide) (fun v33 e34 => ?_)
    have e34 : v33 = 3 := e34 ⟨by decide, by decide⟩
    subst e34
    refine av_wp_sqF ck_128 4 (pc' := 95) (lv' := [some (.inr (.inr (.inl (some (77))))), some (.inl a), some (.inl b), some (.inl c), some (.inl d), some (.inl e), some (.inl (3)), some (.inl a)]) (st' := [.inl (av_b (av_shr a (0))), .inl ((l + 3 : Nat) : Int), .inr (.inr (.inl (some (94))))]) (h' := h30) rfl ?_
    refine wq_bs (p' := 96) (n := 900) (ck_128 _ _ rfl) rfl (ly_k (FE_ly F32 L) 94 rfl) (by omega) ?_
    obtain ⟨f38, q39⟩ : ∃ f, f = av_u1 f28 (l + 3) (bt a 0) := ⟨_, rfl⟩
    have a36 : hA (hwA h30 94 (Int.toNat (((l + 3 : Nat) : Int))) (av_b (av_b (av_shr a (0))))) 94 = f38 := by rw [hA_wu, a31, show Int.toNat (((l + 3 : Nat) : Int)) = l + 3 by omega, q39]; rfl
    have F37 := FE_wA (eF := mfF) (j := Int.toNat (((l + 3 : Nat) : Int))) (v := av_b (av_b (av_shr a (0)))) F32 (show mfA 94 from rfl)
    have eh35 : hF (hwA h30 94 (Int.toNat (((l + 3 : Nat) : Int))) (av_b (av_b (av_shr a (0))))) 77 17 = ((l + 3 : Nat) : Int) := eh30
    generalize hwA h30 94 (Int.toNat (((l + 3 : Nat) : Int))) (av_b (av_b (av_shr a (0)))) = h35 at a36 F37 eh35 ⊢
    clear a31 F32 eh30
    have p40 : f38 = put4 (hA h 94) (l + 0) a := by rw [q39, q29, q19, q9]; rfl
    clear q39 q29 q19 q9
    refine av_wp_sqF ck_128 2 (pc' := 98) (lv' := [some (.inr (.inr (.inl (some (77))))), some (.inl a), some (.inl b), some (.inl c), some (.inl d), some (.inl e), some (.inl (3)), some (.inl a)]) (st' := [.inr (.inr (.inl (some (77)))), .inr (.inr (.inl (some (77))))]) (h' := h35) rfl ?_
    refine wq_gi (p' := 101) (ck_128 _ _ rfl) rfl (congrArg Prod.fst (ly_k (FE_ly F37 L) 77 rfl)) rfl (eh35) ?_
    refine av_wp_sqF ck_128 2 (pc' := 103) (lv' := [some (.inr (.inr (.inl (some (77))))), some (.inl a), some (.inl b), some (.inl c), some (.inl d), some (.inl e), some (.inl (3)), some (.inl a)]) (st' := [.inl (((l + 3 : Nat) : Int) + (1)), .inr (.inr (.inl (some (77))))]) (h' := h35) rfl ?_
    refine wq_pi (p' := 106) (ck_128 _ _ rfl) rfl (congrArg Prod.fst (ly_k (FE_ly F37 L) 77 rfl)) rfl ?_
    rw [show (((l + 3 : Nat) : Int) + (1)) = ((l + 4 : Nat) : Int) by omega]
    have a42 : hA (hwF h35 77 17 ((l + 4 : Nat) : Int)) 94 = f38 := a36
    have F43 := FE_wF (v := ((l + 4 : Nat) : Int)) F37 (show mfF 77 17 from ⟨rfl, rfl⟩)
    have eh41 : hF (hwF h35 77 17 ((l + 4 : Nat) : Int)) 77 17 = ((l + 4 : Nat) : Int) := hF_self
    generalize hwF h35 77 17 ((l + 4 : Nat) : Int) = h41 at a42 F43 eh41 ⊢
    clear a36 F37 eh35
    refine av_wp_sqF ck_128 12 (pc' := 43) (lv' := [some (.inr (.inr (.inl (some (77))))), some (.inl a), some (.inl b), some (.inl c), some (.inl d), some (.inl e), some (.inl (4)), some (.inl a)]) (st' := [.inl b]) (h' := h41) rfl ?_
    refine av_wp_sqF ck_128 3 (pc' := 74) (lv' := [some (.inr (.inr (.inl (some (77))))), some (.inl a), some (.inl b), some (.inl c), some (.inl d), some (.inl e), some (.inl (4)), some (.inl b)]) (st' := [.inr (.inr (.inl (some (77))))]) (h' := h41) rfl ?_
    refine wq_gr (p' := 77) (ck_128 _ _ rfl) rfl (congrArg Prod.fst (ly_k (FE_ly F43 L) 77 rfl)) rfl (ly_g (FE_ly F43 L) 77 16 94 rfl) ?_
    refine av_wp_sqF ck_128 1 (pc' := 78) (lv' := [some (.inr (.inr (.inl (some (77))))), some (.inl a), some (.inl b), some (.inl c), some (.inl d), some (.inl e), some (.inl (4)), some (.inl b)]) (st' := [.inr (.inr (.inl (some (77)))), .inr (.inr (.inl (some (94))))]) (h' := h41) rfl ?_
    refine wq_gi (p' := 81) (ck_128 _ _ rfl) rfl (congrArg Prod.fst (ly_k (FE_ly F43 L) 77 rfl)) rfl (eh41) ?_
    refine av_wp_sqF ck_128 5 (pc' := 90) (lv' := [some (.inr (.inr (.inl (some (77))))), some (.inl a), some (.inl b), some (.inl c), some (.inl d), some (.inl e), some (.inl (4)), some (.inl b)]) (st' := [.inl (4), .inl (4), .inl (8), .inl (24), .inl b, .inl ((l + 4 : Nat) : Int), .inr (.inr (.inl (some (94))))]) (h' := h41) rfl ?_
    refine wq_rm (p' := 91) (ck_128 _ _ rfl) rfl ⟨by decide, by decide⟩ (by decide) (fun v44 e45 => ?_)
    have e45 : v44 = 0 := e45 ⟨by decide, by decide⟩
    subst e45
    refine av_wp_sqF ck_128 4 (pc' := 95) (lv' := [some (.inr (.inr (.inl (some (77))))), some (.inl a), some (.inl b), some (.inl c), some (.inl d), some (.inl e), some (.inl (4)), some (.inl b)]) (st' := [.inl (av_b (av_shr b (24))), .inl ((l + 4 : Nat) : Int), .inr (.inr (.inl (some (94))))]) (h' := h41) rfl ?_
    refine wq_bs (p' := 96) (n := 900) (ck_128 _ _ rfl) rfl (ly_k (FE_ly F43 L) 94 rfl) (by omega) ?_
    obtain ⟨f49, q50⟩ : ∃ f, f = av_u1 f38 (l + 4) (bt b 24) := ⟨_, rfl⟩
    have a47 : hA (hwA h41 94 (Int.toNat (((l + 4 : Nat) : Int))) (av_b (av_b (av_shr b (24))))) 94 = f49 := by rw [hA_wu, a42, show Int.toNat (((l + 4 : Nat) : Int)) = l + 4 by omega, q50]; rfl
    have F48 := FE_wA (eF := mfF) (j := Int.toNat (((l + 4 : Nat) : Int))) (v := av_b (av_b (av_shr b (24)))) F43 (show mfA 94 from rfl)
    have eh46 : hF (hwA h41 94 (Int.toNat (((l + 4 : Nat) : Int))) (av_b (av_b (av_shr b (24))))) 77 17 = ((l + 4 : Nat) : Int) := eh41
    generalize hwA h41 94 (Int.toNat (((l + 4 : Nat) : Int))) (av_b (av_b (av_shr b (24)))) = h46 at a47 F48 eh46 ⊢
    clear a42 F43 eh41
    refine av_wp_sqF ck_128 2 (pc' := 98) (lv' := [some (.inr (.inr (.inl (some (77))))), some (.inl a), some (.inl b), some (.inl c), some (.inl d), some (.inl e), some (.inl (4)), some (.inl b)]) (st' := [.inr (.inr (.inl (some (77)))), .inr (.inr (.inl (some (77))))]) (h' := h46) rfl ?_
    refine wq_gi (p' := 101) (ck_128 _ _ rfl) rfl (congrArg Prod.fst (ly_k (FE_ly F48 L) 77 rfl)) rfl (eh46) ?_
    refine av_wp_sqF ck_128 2 (pc' := 103) (lv' := [some (.inr (.inr (.inl (some (77))))), some (.inl a), some (.inl b), some (.inl c), some (.inl d), some (.inl e), some (.inl (4)), some (.inl b)]) (st' := [.inl (((l + 4 : Nat) : Int) + (1)), .inr (.inr (.inl (some (77))))]) (h' := h46) rfl ?_
    refine wq_pi (p' := 106) (ck_128 _ _ rfl) rfl (congrArg Prod.fst (ly_k (FE_ly F48 L) 77 rfl)) rfl ?_
    rw [show (((l + 4 : Nat) : Int) + (1)) = ((l + 5 : Nat) : Int) by omega]
    have a52 : hA (hwF h46 77 17 ((l + 5 : Nat) : Int)) 94 = f49 := a47
    have F53 := FE_wF (v := ((l + 5 : Nat) : Int)) F48 (show mfF 77 17 from ⟨rfl, rfl⟩)
    have eh51 : hF (hwF h46 77 17 ((l + 5 : Nat) : Int)) 77 17 = ((l + 5 : Nat) : Int) := hF_self
    generalize hwF h46 77 17 ((l + 5 : Nat) : Int) = h51 at a52 F53 eh51 ⊢
    clear a47 F48 eh46
    refine av_wp_sqF ck_128 12 (pc' := 43) (lv' := [some (.inr (.inr (.inl (some (77))))), some (.inl a), some (.inl b), some (.inl c), some (.inl d), some (.inl e), some (.inl (5)), some (.inl b)]) (st' := [.inl b]) (h' := h51) rfl ?_
    refine av_wp_sqF ck_128 3 (pc' := 74) (lv' := [some (.inr (.inr (.inl (some (77))))), some (.inl a), some (.inl b), some (.inl c), some (.inl d), some (.inl e), some (.inl (5)), some (.inl b)]) (st' := [.inr (.inr (.inl (some (77))))]) (h' := h51) rfl ?_
    refine wq_gr (p' := 77) (ck_128 _ _ rfl) rfl (congrArg Prod.fst (ly_k (FE_ly F53 L) 77 rfl)) rfl (ly_g (FE_ly F53 L) 77 16 94 rfl) ?_
    refine av_wp_sqF ck_128 1 (pc' := 78) (lv' := [some (.inr (.inr (.inl (some (77))))), some (.inl a), some (.inl b), some (.inl c), some (.inl d), some (.inl e), some (.inl (5)), some (.inl b)]) (st' := [.inr (.inr (.inl (some (77)))), .inr (.inr (.inl (some (94))))]) (h' := h51) rfl ?_
    refine wq_gi (p' := 81) (ck_128 _ _ rfl) rfl (congrArg Prod.fst (ly_k (FE_ly F53 L) 77 rfl)) rfl (eh51) ?_
    refine av_wp_sqF ck_128 5 (pc' := 90) (lv' := [some (.inr (.inr (.inl (some (77))))), some (.inl a), some (.inl b), some (.inl c), some (.inl d), some (.inl e), some (.inl (5)), some (.inl b)]) (st' := [.inl (4), .inl (5), .inl (8), .inl (24), .inl b, .inl ((l + 5 : Nat) : Int), .inr (.inr (.inl (some (94))))]) (h' := h51) rfl ?_
    refine wq_rm (p' := 91) (ck_128 _ _ rfl) rfl ⟨by decide, by decide⟩ (by decide) (fun v54 e55 => ?_)
    have e55 : v54 = 1 := e55 ⟨by decide, by decide⟩
    subst e55
    refine av_wp_sqF ck_128 4 (pc' := 95) (lv' := [some (.inr (.inr (.inl (some (77))))), some (.inl a), some (.inl b), some (.inl c), some (.inl d), some (.inl e), some (.inl (5)), some (.inl b)]) (st' := [.inl (av_b (av_shr b (16))), .inl ((l + 5 : Nat) : Int), .inr (.inr (.inl (some (94))))]) (h' := h51) rfl ?_
    refine wq_bs (p' := 96) (n := 900) (ck_128 _ _ rfl) rfl (ly_k (FE_ly F53 L) 94 rfl) (by omega) ?_
    obtain ⟨f59, q60⟩ : ∃ f, f = av_u1 f49 (l + 5) (bt b 16) := ⟨_, rfl⟩
    have a57 : hA (hwA h51 94 (Int.toNat (((l + 5 : Nat) : Int))) (av_b (av_b (av_shr b (16))))) 94 = f59 := by rw [hA_wu, a52, show Int.toNat (((l + 5 : Nat) : Int)) = l + 5 by omega, q60]; rfl
    have F58 := FE_wA (eF := mfF) (j := Int.toNat (((l + 5 : Nat) : Int))) (v := av_b (av_b (av_shr b (16)))) F53 (show mfA 94 from rfl)
    have eh56 : hF (hwA h51 94 (Int.toNat (((l + 5 : Nat) : Int))) (av_b (av_b (av_shr b (16))))) 77 17 = ((l + 5 : Nat) : Int) := eh51
    generalize hwA h51 94 (Int.toNat (((l + 5 : Nat) : Int))) (av_b (av_b (av_shr b (16)))) = h56 at a57 F58 eh56 ⊢
    clear a52 F53 eh51
    refine av_wp_sqF ck_128 2 (pc' := 98) (lv' := [some (.inr (.inr (.inl (some (77))))), some (.inl a), some (.inl b), some (.inl c), some (.inl d), some (.inl e), some (.inl (5)), some (.inl b)]) (st' := [.inr (.inr (.inl (some (77)))), .inr (.inr (.inl (some (77))))]) (h' := h56) rfl ?_
    refine wq_gi (p' := 101) (ck_128 _ _ rfl) rfl (congrArg Prod.fst (ly_k (FE_ly F58 L) 77 rfl)) rfl (eh56) ?_
    refine av_wp_sqF ck_128 2 (pc' := 103) (lv' := [some (.inr (.inr (.inl (some (77))))), some (.inl a), some (.inl b), some (.inl c), some (.inl d), some (.inl e), some (.inl (5)), some (.inl b)]) (st' := [.inl (((l + 5 : Nat) : Int) + (1)), .inr (.inr (.inl (some (77))))]) (h' := h56) rfl ?_
    refine wq_pi (p' := 106) (ck_128 _ _ rfl) rfl (congrArg Prod.fst (ly_k (FE_ly F58 L) 77 rfl)) rfl ?_
    rw [show (((l + 5 : Nat) : Int) + (1)) = ((l + 6 : Nat) : Int) by omega]
    have a62 : hA (hwF h56 77 17 ((l + 6 : Nat) : Int)) 94 = f59 := a57
    have F63 := FE_wF (v := ((l + 6 : Nat) : Int)) F58 (show mfF 77 17 from ⟨rfl, rfl⟩)
    have eh61 : hF (hwF h56 77 17 ((l + 6 : Nat) : Int)) 77 17 = ((l + 6 : Nat) : Int) := hF_self
    generalize hwF h56 77 17 ((l + 6 : Nat) : Int) = h61 at a62 F63 eh61 ⊢
    clear a57 F58 eh56
    refine av_wp_sqF ck_128 12 (pc' := 43) (lv' := [some (.inr (.inr (.inl (some (77))))), some (.inl a), some (.inl b), some (.inl c), some (.inl d), some (.inl e), some (.inl (6)), some (.inl b)]) (st' := [.inl b]) (h' := h61) rfl ?_
    refine av_wp_sqF ck_128 3 (pc' := 74) (lv' := [some (.inr (.inr (.inl (some (77))))), some (.inl a), some (.inl b), some (.inl c), some (.inl d), some (.inl e), some (.inl (6)), some (.inl b)]) (st' := [.inr (.inr (.inl (some (77))))]) (h' := h61) rfl ?_
    refine wq_gr (p' := 77) (ck_128 _ _ rfl) rfl (congrArg Prod.fst (ly_k (FE_ly F63 L) 77 rfl)) rfl (ly_g (FE_ly F63 L) 77 16 94 rfl) ?_
    refine av_wp_sqF ck_128 1 (pc' := 78) (lv' := [some (.inr (.inr (.inl (some (77))))), some (.inl a), some (.inl b), some (.inl c), some (.inl d), some (.inl e), some (.inl (6)), some (.inl b)]) (st' := [.inr (.inr (.inl (some (77)))), .inr (.inr (.inl (some (94))))]) (h' := h61) rfl ?_
    refine wq_gi (p' := 81) (ck_128 _ _ rfl) rfl (congrArg Prod.fst (ly_k (FE_ly F63 L) 77 rfl)) rfl (eh61) ?_
    refine av_wp_sqF ck_128 5 (pc' := 90) (lv' := [some (.inr (.inr (.inl (some (77))))), some (.inl a), some (.inl b), some (.inl c), some (.inl d), some (.inl e), some (.inl (6)), some (.inl b)]) (st' := [.inl (4), .inl (6), .inl (8), .inl (24), .inl b, .inl ((l + 6 : Nat) : Int), .inr (.inr (.inl (some (94))))]) (h' := h61) rfl ?_
    refine wq_rm (p' := 91) (ck_128 _ _ rfl) rfl ⟨by decide, by decide⟩ (by decide) (fun v64 e65 => ?_)
    have e65 : v64 = 2 := e65 ⟨by decide, by decide⟩
    subst e65
    refine av_wp_sqF ck_128 4 (pc' := 95) (lv' := [some (.inr (.inr (.inl (some (77))))), some (.inl a), some (.inl b), some (.inl c), some (.inl d), some (.inl e), some (.inl (6)), some (.inl b)]) (st' := [.inl (av_b (av_shr b (8))), .inl ((l + 6 : Nat) : Int), .inr (.inr (.inl (some (94))))]) (h' := h61) rfl ?_
    refine wq_bs (p' := 96) (n := 900) (ck_128 _ _ rfl) rfl (ly_k (FE_ly F63 L) 94 rfl) (by omega) ?_
    obtain ⟨f69, q70⟩ : ∃ f, f = av_u1 f59 (l + 6) (bt b 8) := ⟨_, rfl⟩
    have a67 : hA (hwA h61 94 (Int.toNat (((l + 6 : Nat) : Int))) (av_b (av_b (av_shr b (8))))) 94 = f69 := by rw [hA_wu, a62, show Int.toNat (((l + 6 : Nat) : Int)) = l + 6 by omega, q70]; rfl
    have F68 := FE_wA (eF := mfF) (j := Int.toNat (((l + 6 : Nat) : Int))) (v := av_b (av_b (av_shr b (8)))) F63 (show mfA 94 from rfl)
    have eh66 : hF (hwA h61 94 (Int.toNat (((l + 6 : Nat) : Int))) (av_b (av_b (av_shr b (8))))) 77 17 = ((l + 6 : Nat) : Int) := eh61
    generalize hwA h61 94 (Int.toNat (((l + 6 : Nat) : Int))) (av_b (av_b (av_shr b (8)))) = h66 at a67 F68 eh66 ⊢
    clear a62 F63 eh61
    refine av_wp_sqF ck_128 2 (pc' := 98) (lv' := [some (.inr (.inr (.inl (some (77))))), some (.inl a), some (.inl b), some (.inl c), some (.inl d), some (.inl e), some (.inl (6)), some (.inl b)]) (st' := [.inr (.inr (.inl (some (77)))), .inr (.inr (.inl (some (77))))]) (h' := h66) rfl ?_
    refine wq_gi (p' := 101) (ck_128 _ _ rfl) rfl (congrArg Prod.fst (ly_k (FE_ly F68 L) 77 rfl)) rfl (eh66) ?_
    refine av_wp_sqF ck_128 2 (pc' := 103) (lv' := [some (.inr (.inr (.inl (some (77))))), some (.inl a), some (.inl b), some (.inl c), some (.inl d), some (.inl e), some (.inl (6)), some (.inl b)]) (st' := [.inl (((l + 6 : Nat) : Int) + (1)), .inr (.inr (.inl (some (77))))]) (h' := h66) rfl ?_
    refine wq_pi (p' := 106) (ck_128 _ _ rfl) rfl (congrArg Prod.fst (ly_k (FE_ly F68 L) 77 rfl)) rfl ?_
    rw [show (((l + 6 : Nat) : Int) + (1)) = ((l + 7 : Nat) : Int) by omega]
    have a72 : hA (hwF h66 77 17 ((l + 7 : Nat) : Int)) 94 = f69 := a67
    have F73 := FE_wF (v := ((l + 7 : Nat) : Int)) F68 (show mfF 77 17 from ⟨rfl, rfl⟩)
    have eh71 : hF (hwF h66 77 17 ((l + 7 : Nat) : Int)) 77 17 = ((l + 7 : Nat) : Int) := hF_self
    generalize hwF h66 77 17 ((l + 7 : Nat) : Int) = h71 at a72 F73 eh71 ⊢
    clear a67 F68 eh66
    refine av_wp_sqF ck_128 12 (pc' := 43) (lv' := [some (.inr (.inr (.inl (some (77))))), some (.inl a), some (.inl b), some (.inl c), some (.inl d), some (.inl e), some (.inl (7)), some (.inl b)]) (st' := [.inl b]) (h' := h71) rfl ?_
    refine av_wp_sqF ck_128 3 (pc' := 74) (lv' := [some (.inr (.inr (.inl (some (77))))), some (.inl a), some (.inl b), some (.inl c), some (.inl d), some (.inl e), some (.inl (7)), some (.inl b)]) (st' := [.inr (.inr (.inl (some (77))))]) (h' := h71) rfl ?_
    refine wq_gr (p' := 77) (ck_128 _ _ rfl) rfl (congrArg Prod.fst (ly_k (FE_ly F73 L) 77 rfl)) rfl (ly_g (FE_ly F73 L) 77 16 94 rfl) ?_
    refine av_wp_sqF ck_128 1 (pc' := 78) (lv' := [some (.inr (.inr (.inl (some (77))))), some (.inl a), some (.inl b), some (.inl c), some (.inl d), some (.inl e), some (.inl (7)), some (.inl b)]) (st' := [.inr (.inr (.inl (some (77)))), .inr (.inr (.inl (some (94))))]) (h' := h71) rfl ?_
    refine wq_gi (p' := 81) (ck_128 _ _ rfl) rfl (congrArg Prod.fst (ly_k (FE_ly F73 L) 77 rfl)) rfl (eh71) ?_
    refine av_wp_sqF ck_128 5 (pc' := 90) (lv' := [some (.inr (.inr (.inl (some (77))))), some (.inl a), some (.inl b), some (.inl c), some (.inl d), some (.inl e), some (.inl (7)), some (.inl b)]) (st' := [.inl (4), .inl (7), .inl (8), .inl (24), .inl b, .inl ((l + 7 : Nat) : Int), .inr (.inr (.inl (some (94))))]) (h' := h71) rfl ?_
    refine wq_rm (p' := 91) (ck_128 _ _ rfl) rfl ⟨by decide, by decide⟩ (by decide) (fun v74 e75 => ?_)
    have e75 : v74 = 3 := e75 ⟨by decide, by decide⟩
    subst e75
    refine av_wp_sqF ck_128 4 (pc' := 95) (lv' := [some (.inr (.inr (.inl (some (77))))), some (.inl a), some (.inl b), some (.inl c), some (.inl d), some (.inl e), some (.inl (7)), some (.inl b)]) (st' := [.inl (av_b (av_shr b (0))), .inl ((l + 7 : Nat) : Int), .inr (.inr (.inl (some (94))))]) (h' := h71) rfl ?_
    refine wq_bs (p' := 96) (n := 900) (ck_128 _ _ rfl) rfl (ly_k (FE_ly F73 L) 94 rfl) (by omega) ?_
    obtain ⟨f79, q80⟩ : ∃ f, f = av_u1 f69 (l + 7) (bt b 0) := ⟨_, rfl⟩
    have a77 : hA (hwA h71 94 (Int.toNat (((l + 7 : Nat) : Int))) (av_b (av_b (av_shr b (0))))) 94 = f79 := by rw [hA_wu, a72, show Int.toNat (((l + 7 : Nat) : Int)) = l + 7 by omega, q80]; rfl
    have F78 := FE_wA (eF := mfF) (j := Int.toNat (((l + 7 : Nat) : Int))) (v := av_b (av_b (av_shr b (0)))) F73 (show mfA 94 from rfl)
    have eh76 : hF (hwA h71 94 (Int.toNat (((l + 7 : Nat) : Int))) (av_b (av_b (av_shr b (0))))) 77 17 = ((l + 7 : Nat) : Int) := eh71
    generalize hwA h71 94 (Int.toNat (((l + 7 : Nat) : Int))) (av_b (av_b (av_shr b (0)))) = h76 at a77 F78 eh76 ⊢
    clear a72 F73 eh71
    have p81 : f79 = put4 f38 (l + 4) b := by rw [q80, q70, q60, q50]; rfl
    clear q80 q70 q60 q50
    refine av_wp_sqF ck_128 2 (pc' := 98) (lv' := [some (.inr (.inr (.inl (some (77))))), some (.inl a), some (.inl b), some (.inl c), some (.inl d), some (.inl e), some (.inl (7)), some (.inl b)]) (st' := [.inr (.inr (.inl (some (77)))), .inr (.inr (.inl (some (77))))]) (h' := h76) rfl ?_
    refine wq_gi (p' := 101) (ck_128 _ _ rfl) rfl (congrArg Prod.fst (ly_k (FE_ly F78 L) 77 rfl)) rfl (eh76) ?_
    refine av_wp_sqF ck_128 2 (pc' := 103) (lv' := [some (.inr (.inr (.inl (some (77))))), some (.inl a), some (.inl b), some (.inl c), some (.inl d), some (.inl e), some (.inl (7)), some (.inl b)]) (st' := [.inl (((l + 7 : Nat) : Int) + (1)), .inr (.inr (.inl (some (77))))]) (h' := h76) rfl ?_
    refine wq_pi (p' := 106) (ck_128 _ _ rfl) rfl (congrArg Prod.fst (ly_k (FE_ly F78 L) 77 rfl)) rfl ?_
    rw [show (((l + 7 : Nat) : Int) + (1)) = ((l + 8 : Nat) : Int) by omega]
    have a83 : hA (hwF h76 77 17 ((l + 8 : Nat) : Int)) 94 = f79 := a77
    have F84 := FE_wF (v := ((l + 8 : Nat) : Int)) F78 (show mfF 77 17 from ⟨rfl, rfl⟩)
    have eh82 : hF (hwF h76 77 17 ((l + 8 : Nat) : Int)) 77 17 = ((l + 8 : Nat) : Int) := hF_self
    generalize hwF h76 77 17 ((l + 8 : Nat) : Int) = h82 at a83 F84 eh82 ⊢
    clear a77 F78 eh76
    refine av_wp_sqF ck_128 12 (pc' := 48) (lv' := [some (.inr (.inr (.inl (some (77))))), some (.inl a), some (.inl b), some (.inl c), some (.inl d), some (.inl e), some (.inl (8)), some (.inl b)]) (st' := [.inl (8)]) (h' := h82) rfl ?_
    refine av_wp_sqF ck_128 6 (pc' := 74) (lv' := [some (.inr (.inr (.inl (some (77))))), some (.inl a), some (.inl b), some (.inl c), some (.inl d), some (.inl e), some (.inl (8)), some (.inl c)]) (st' := [.inr (.inr (.inl (some (77))))]) (h' := h82) rfl ?_
    refine wq_gr (p' := 77) (ck_128 _ _ rfl) rfl (congrArg Prod.fst (ly_k (FE_ly F84 L) 77 rfl)) rfl (ly_g (FE_ly F84 L) 77 16 94 rfl) ?_
    refine av_wp_sqF ck_128 1 (pc' := 78) (lv' := [some (.inr (.inr (.inl (some (77))))), some (.inl a), some (.inl b), some (.inl c), some (.inl d), some (.inl e), some (.inl (8)), some (.inl c)]) (st' := [.inr (.inr (.inl (some (77)))), .inr (.inr (.inl (some (94))))]) (h' := h82) rfl ?_
    refine wq_gi (p' := 81) (ck_128 _ _ rfl) rfl (congrArg Prod.fst (ly_k (FE_ly F84 L) 77 rfl)) rfl (eh82) ?_
    refine av_wp_sqF ck_128 5 (pc' := 90) (lv' := [some (.inr (.inr (.inl (some (77))))), some (.inl a), some (.inl b), some (.inl c), some (.inl d), some (.inl e), some (.inl (8)), some (.inl c)]) (st' := [.inl (4), .inl (8), .inl (8), .inl (24), .inl c, .inl ((l + 8 : Nat) : Int), .inr (.inr (.inl (some (94))))]) (h' := h82) rfl ?_
    refine wq_rm (p' := 91) (ck_128 _ _ rfl) rfl ⟨by decide, by decide⟩ (by decide) (fun v85 e86 => ?_)
    have e86 : v85 = 0 := e86 ⟨by decide, by decide⟩
    subst e86
    refine av_wp_sqF ck_128 4 (pc' := 95) (lv' := [some (.inr (.inr (.inl (some (77))))), some (.inl a), some (.inl b), some (.inl c), some (.inl d), some (.inl e), some (.inl (8)), some (.inl c)]) (st' := [.inl (av_b (av_shr c (24))), .inl ((l + 8 : Nat) : Int), .inr (.inr (.inl (some (94))))]) (h' := h82) rfl ?_
    refine wq_bs (p' := 96) (n := 900) (ck_128 _ _ rfl) rfl (ly_k (FE_ly F84 L) 94 rfl) (by omega) ?_
    obtain ⟨f90, q91⟩ : ∃ f, f = av_u1 f79 (l + 8) (bt c 24) := ⟨_, rfl⟩
    have a88 : hA (hwA h82 94 (Int.toNat (((l + 8 : Nat) : Int))) (av_b (av_b (av_shr c (24))))) 94 = f90 := by rw [hA_wu, a83, show Int.toNat (((l + 8 : Nat) : Int)) = l + 8 by omega, q91]; rfl
    have F89 := FE_wA (eF := mfF) (j := Int.toNat (((l + 8 : Nat) : Int))) (v := av_b (av_b (av_shr c (24)))) F84 (show mfA 94 from rfl)
    have eh87 : hF (hwA h82 94 (Int.toNat (((l + 8 : Nat) : Int))) (av_b (av_b (av_shr c (24))))) 77 17 = ((l + 8 : Nat) : Int) := eh82
    generalize hwA h82 94 (Int.toNat (((l + 8 : Nat) : Int))) (av_b (av_b (av_shr c (24)))) = h87 at a88 F89 eh87 ⊢
    clear a83 F84 eh82
    refine av_wp_sqF ck_128 2 (pc' := 98) (lv' := [some (.inr (.inr (.inl (some (77))))), some (.inl a), some (.inl b), some (.inl c), some (.inl d), some (.inl e), some (.inl (8)), some (.inl c)]) (st' := [.inr (.inr (.inl (some (77)))), .inr (.inr (.inl (some (77))))]) (h' := h87) rfl ?_
    refine wq_gi (p' := 101) (ck_128 _ _ rfl) rfl (congrArg Prod.fst (ly_k (FE_ly F89 L) 77 rfl)) rfl (eh87) ?_
    refine av_wp_sqF ck_128 2 (pc' := 103) (lv' := [some (.inr (.inr (.inl (some (77))))), some (.inl a), some (.inl b), some (.inl c), some (.inl d), some (.inl e), some (.inl (8)), some (.inl c)]) (st' := [.inl (((l + 8 : Nat) : Int) + (1)), .inr (.inr (.inl (some (77))))]) (h' := h87) rfl ?_
    refine wq_pi (p' := 106) (ck_128 _ _ rfl) rfl (congrArg Prod.fst (ly_k (FE_ly F89 L) 77 rfl)) rfl ?_
    rw [show (((l + 8 : Nat) : Int) + (1)) = ((l + 9 : Nat) : Int) by omega]
    have a93 : hA (hwF h87 77 17 ((l + 9 : Nat) : Int)) 94 = f90 := a88
    have F94 := FE_wF (v := ((l + 9 : Nat) : Int)) F89 (show mfF 77 17 from ⟨rfl, rfl⟩)
    have eh92 : hF (hwF h87 77 17 ((l + 9 : Nat) : Int)) 77 17 = ((l + 9 : Nat) : Int) := hF_self
    generalize hwF h87 77 17 ((l + 9 : Nat) : Int) = h92 at a93 F94 eh92 ⊢
    clear a88 F89 eh87
    refine av_wp_sqF ck_128 12 (pc' := 48) (lv' := [some (.inr (.inr (.inl (some (77))))), some (.inl a), some (.inl b), some (.inl c), some (.inl d), some (.inl e), some (.inl (9)), some (.inl c)]) (st' := [.inl (9)]) (h' := h92) rfl ?_
    refine av_wp_sqF ck_128 6 (pc' := 74) (lv' := [some (.inr (.inr (.inl (some (77))))), some (.inl a), some (.inl b), some (.inl c), some (.inl d), some (.inl e), some (.inl (9)), some (.inl c)]) (st' := [.inr (.inr (.inl (some (77))))]) (h' := h92) rfl ?_
    refine wq_gr (p' := 77) (ck_128 _ _ rfl) rfl (congrArg Prod.fst (ly_k (FE_ly F94 L) 77 rfl)) rfl (ly_g (FE_ly F94 L) 77 16 94 rfl) ?_
    refine av_wp_sqF ck_128 1 (pc' := 78) (lv' := [some (.inr (.inr (.inl (some (77))))), some (.inl a), some (.inl b), some (.inl c), some (.inl d), some (.inl e), some (.inl (9)), some (.inl c)]) (st' := [.inr (.inr (.inl (some (77)))), .inr (.inr (.inl (some (94))))]) (h' := h92) rfl ?_
    refine wq_gi (p' := 81) (ck_128 _ _ rfl) rfl (congrArg Prod.fst (ly_k (FE_ly F94 L) 77 rfl)) rfl (eh92) ?_
    refine av_wp_sqF ck_128 5 (pc' := 90) (lv' := [some (.inr (.inr (.inl (some (77))))), some (.inl a), some (.inl b), some (.inl c), some (.inl d), some (.inl e), some (.inl (9)), some (.inl c)]) (st' := [.inl (4), .inl (9), .inl (8), .inl (24), .inl c, .inl ((l + 9 : Nat) : Int), .inr (.inr (.inl (some (94))))]) (h' := h92) rfl ?_
    refine wq_rm (p' := 91) (ck_128 _ _ rfl) rfl ⟨by decide, by decide⟩ (by decide) (fun v95 e96 => ?_)
    have e96 : v95 = 1 := e96 ⟨by decide, by decide⟩
    subst e96
    refine av_wp_sqF ck_128 4 (pc' := 95) (lv' := [some (.inr (.inr (.inl (some (77))))), some (.inl a), some (.inl b), some (.inl c), some (.inl d), some (.inl e), some (.inl (9)), some (.inl c)]) (st' := [.inl (av_b (av_shr c (16))), .inl ((l + 9 : Nat) : Int), .inr (.inr (.inl (some (94))))]) (h' := h92) rfl ?_
    refine wq_bs (p' := 96) (n := 900) (ck_128 _ _ rfl) rfl (ly_k (FE_ly F94 L) 94 rfl) (by omega) ?_
    obtain ⟨f100, q101⟩ : ∃ f, f = av_u1 f90 (l + 9) (bt c 16) := ⟨_, rfl⟩
    have a98 : hA (hwA h92 94 (Int.toNat (((l + 9 : Nat) : Int))) (av_b (av_b (av_shr c (16))))) 94 = f100 := by rw [hA_wu, a93, show Int.toNat (((l + 9 : Nat) : Int)) = l + 9 by omega, q101]; rfl
    have F99 := FE_wA (eF := mfF) (j := Int.toNat (((l + 9 : Nat) : Int))) (v := av_b (av_b (av_shr c (16)))) F94 (show mfA 94 from rfl)
    have eh97 : hF (hwA h92 94 (Int.toNat (((l + 9 : Nat) : Int))) (av_b (av_b (av_shr c (16))))) 77 17 = ((l + 9 : Nat) : Int) := eh92
    generalize hwA h92 94 (Int.toNat (((l + 9 : Nat) : Int))) (av_b (av_b (av_shr c (16)))) = h97 at a98 F99 eh97 ⊢
    clear a93 F94 eh92
    refine av_wp_sqF ck_128 2 (pc' := 98) (lv' := [some (.inr (.inr (.inl (some (77))))), some (.inl a), some (.inl b), some (.inl c), some (.inl d), some (.inl e), some (.inl (9)), some (.inl c)]) (st' := [.inr (.inr (.inl (some (77)))), .inr (.inr (.inl (some (77))))]) (h' := h97) rfl ?_
    refine wq_gi (p' := 101) (ck_128 _ _ rfl) rfl (congrArg Prod.fst (ly_k (FE_ly F99 L) 77 rfl)) rfl (eh97) ?_
    refine av_wp_sqF ck_128 2 (pc' := 103) (lv' := [some (.inr (.inr (.inl (some (77))))), some (.inl a), some (.inl b), some (.inl c), some (.inl d), some (.inl e), some (.inl (9)), some (.inl c)]) (st' := [.inl (((l + 9 : Nat) : Int) + (1)), .inr (.inr (.inl (some (77))))]) (h' := h97) rfl ?_
    refine wq_pi (p' := 106) (ck_128 _ _ rfl) rfl (congrArg Prod.fst (ly_k (FE_ly F99 L) 77 rfl)) rfl ?_
    rw [show (((l + 9 : Nat) : Int) + (1)) = ((l + 10 : Nat) : Int) by omega]
    have a103 : hA (hwF h97 77 17 ((l + 10 : Nat) : Int)) 94 = f100 := a98
    have F104 := FE_wF (v := ((l + 10 : Nat) : Int)) F99 (show mfF 77 17 from ⟨rfl, rfl⟩)
    have eh102 : hF (hwF h97 77 17 ((l + 10 : Nat) : Int)) 77 17 = ((l + 10 : Nat) : Int) := hF_self
    generalize hwF h97 77 17 ((l + 10 : Nat) : Int) = h102 at a103 F104 eh102 ⊢
    clear a98 F99 eh97
    refine av_wp_sqF ck_128 12 (pc' := 48) (lv' := [some (.inr (.inr (.inl (some (77))))), some (.inl a), some (.inl b), some (.inl c), some (.inl d), some (.inl e), some (.inl (10)), some (.inl c)]) (st' := [.inl (10)]) (h' := h102) rfl ?_
    refine av_wp_sqF ck_128 6 (pc' := 74) (lv' := [some (.inr (.inr (.inl (some (77))))), some (.inl a), some (.inl b), some (.inl c), some (.inl d), some (.inl e), some (.inl (10)), some (.inl c)]) (st' := [.inr (.inr (.inl (some (77))))]) (h' := h102) rfl ?_
    refine wq_gr (p' := 77) (ck_128 _ _ rfl) rfl (congrArg Prod.fst (ly_k (FE_ly F104 L) 77 rfl)) rfl (ly_g (FE_ly F104 L) 77 16 94 rfl) ?_
    refine av_wp_sqF ck_128 1 (pc' := 78) (lv' := [some (.inr (.inr (.inl (some (77))))), some (.inl a), some (.inl b), some (.inl c), some (.inl d), some (.inl e), some (.inl (10)), some (.inl c)]) (st' := [.inr (.inr (.inl (some (77)))), .inr (.inr (.inl (some (94))))]) (h' := h102) rfl ?_
    refine wq_gi (p' := 81) (ck_128 _ _ rfl) rfl (congrArg Prod.fst (ly_k (FE_ly F104 L) 77 rfl)) rfl (eh102) ?_
    refine av_wp_sqF ck_128 5 (pc' := 90) (lv' := [some (.inr (.inr (.inl (some (77))))), some (.inl a), some (.inl b), some (.inl c), some (.inl d), some (.inl e), some (.inl (10)), some (.inl c)]) (st' := [.inl (4), .inl (10), .inl (8), .inl (24), .inl c, .inl ((l + 10 : Nat) : Int), .inr (.inr (.inl (some (94))))]) (h' := h102) rfl ?_
    refine wq_rm (p' := 91) (ck_128 _ _ rfl) rfl ⟨by decide, by decide⟩ (by decide) (fun v105 e106 => ?_)
    have e106 : v105 = 2 := e106 ⟨by decide, by decide⟩
    subst e106
    refine av_wp_sqF ck_128 4 (pc' := 95) (lv' := [some (.inr (.inr (.inl (some (77))))), some (.inl a), some (.inl b), some (.inl c), some (.inl d), some (.inl e), some (.inl (10)), some (.inl c)]) (st' := [.inl (av_b (av_shr c (8))), .inl ((l + 10 : Nat) : Int), .inr (.inr (.inl (some (94))))]) (h' := h102) rfl ?_
    refine wq_bs (p' := 96) (n := 900) (ck_128 _ _ rfl) rfl (ly_k (FE_ly F104 L) 94 rfl) (by omega) ?_
    obtain ⟨f110, q111⟩ : ∃ f, f = av_u1 f100 (l + 10) (bt c 8) := ⟨_, rfl⟩
    have a108 : hA (hwA h102 94 (Int.toNat (((l + 10 : Nat) : Int))) (av_b (av_b (av_shr c (8))))) 94 = f110 := by rw [hA_wu, a103, show Int.toNat (((l + 10 : Nat) : Int)) = l + 10 by omega, q111]; rfl
    have F109 := FE_wA (eF := mfF) (j := Int.toNat (((l + 10 : Nat) : Int))) (v := av_b (av_b (av_shr c (8)))) F104 (show mfA 94 from rfl)
    have eh107 : hF (hwA h102 94 (Int.toNat (((l + 10 : Nat) : Int))) (av_b (av_b (av_shr c (8))))) 77 17 = ((l + 10 : Nat) : Int) := eh102
    generalize hwA h102 94 (Int.toNat (((l + 10 : Nat) : Int))) (av_b (av_b (av_shr c (8)))) = h107 at a108 F109 eh107 ⊢
    clear a103 F104 eh102
    refine av_wp_sqF ck_128 2 (pc' := 98) (lv' := [some (.inr (.inr (.inl (some (77))))), some (.inl a), some (.inl b), some (.inl c), some (.inl d), some (.inl e), some (.inl (10)), some (.inl c)]) (st' := [.inr (.inr (.inl (some (77)))), .inr (.inr (.inl (some (77))))]) (h' := h107) rfl ?_
    refine wq_gi (p' := 101) (ck_128 _ _ rfl) rfl (congrArg Prod.fst (ly_k (FE_ly F109 L) 77 rfl)) rfl (eh107) ?_
    refine av_wp_sqF ck_128 2 (pc' := 103) (lv' := [some (.inr (.inr (.inl (some (77))))), some (.inl a), some (.inl b), some (.inl c), some (.inl d), some (.inl e), some (.inl (10)), some (.inl c)]) (st' := [.inl (((l + 10 : Nat) : Int) + (1)), .inr (.inr (.inl (some (77))))]) (h' := h107) rfl ?_
    refine wq_pi (p' := 106) (ck_128 _ _ rfl) rfl (congrArg Prod.fst (ly_k (FE_ly F109 L) 77 rfl)) rfl ?_
    rw [show (((l + 10 : Nat) : Int) + (1)) = ((l + 11 : Nat) : Int) by omega]
    have a113 : hA (hwF h107 77 17 ((l + 11 : Nat) : Int)) 94 = f110 := a108
    have F114 := FE_wF (v := ((l + 11 : Nat) : Int)) F109 (show mfF 77 17 from ⟨rfl, rfl⟩)
    have eh112 : hF (hwF h107 77 17 ((l + 11 : Nat) : Int)) 77 17 = ((l + 11 : Nat) : Int) := hF_self
    generalize hwF h107 77 17 ((l + 11 : Nat) : Int) = h112 at a113 F114 eh112 ⊢
    clear a108 F109 eh107
    refine av_wp_sqF ck_128 12 (pc' := 48) (lv' := [some (.inr (.inr (.inl (some (77))))), some (.inl a), some (.inl b), some (.inl c), some (.inl d), some (.inl e), some (.inl (11)), some (.inl c)]) (st' := [.inl (11)]) (h' := h112) rfl ?_
    refine av_wp_sqF ck_128 6 (pc' := 74) (lv' := [some (.inr (.inr (.inl (some (77))))), some (.inl a), some (.inl b), some (.inl c), some (.inl d), some (.inl e), some (.inl (11)), some (.inl c)]) (st' := [.inr (.inr (.inl (some (77))))]) (h' := h112) rfl ?_
    refine wq_gr (p' := 77) (ck_128 _ _ rfl) rfl (congrArg Prod.fst (ly_k (FE_ly F114 L) 77 rfl)) rfl (ly_g (FE_ly F114 L) 77 16 94 rfl) ?_
    refine av_wp_sqF ck_128 1 (pc' := 78) (lv' := [some (.inr (.inr (.inl (some (77))))), some (.inl a), some (.inl b), some (.inl c), some (.inl d), some (.inl e), some (.inl (11)), some (.inl c)]) (st' := [.inr (.inr (.inl (some (77)))), .inr (.inr (.inl (some (94))))]) (h' := h112) rfl ?_
    refine wq_gi (p' := 81) (ck_128 _ _ rfl) rfl (congrArg Prod.fst (ly_k (FE_ly F114 L) 77 rfl)) rfl (eh112) ?_
    refine av_wp_sqF ck_128 5 (pc' := 90) (lv' := [some (.inr (.inr (.inl (some (77))))), some (.inl a), some (.inl b), some (.inl c), some (.inl d), some (.inl e), some (.inl (11)), some (.inl c)]) (st' := [.inl (4), .inl (11), .inl (8), .inl (24), .inl c, .inl ((l + 11 : Nat) : Int), .inr (.inr (.inl (some (94))))]) (h' := h112) rfl ?_
    refine wq_rm (p' := 91) (ck_128 _ _ rfl) rfl ⟨by decide, by decide⟩ (by decide) (fun v115 e116 => ?_)
    have e116 : v115 = 3 := e116 ⟨by decide, by decide⟩
    subst e116
    refine av_wp_sqF ck_128 4 (pc' := 95) (lv' := [some (.inr (.inr (.inl (some (77))))), some (.inl a), some (.inl b), some (.inl c), some (.inl d), some (.inl e), some (.inl (11)), some (.inl c)]) (st' := [.inl (av_b (av_shr c (0))), .inl ((l + 11 : Nat) : Int), .inr (.inr (.inl (some (94))))]) (h' := h112) rfl ?_
    refine wq_bs (p' := 96) (n := 900) (ck_128 _ _ rfl) rfl (ly_k (FE_ly F114 L) 94 rfl) (by omega) ?_
    obtain ⟨f120, q121⟩ : ∃ f, f = av_u1 f110 (l + 11) (bt c 0) := ⟨_, rfl⟩
    have a118 : hA (hwA h112 94 (Int.toNat (((l + 11 : Nat) : Int))) (av_b (av_b (av_shr c (0))))) 94 = f120 := by rw [hA_wu, a113, show Int.toNat (((l + 11 : Nat) : Int)) = l + 11 by omega, q121]; rfl
    have F119 := FE_wA (eF := mfF) (j := Int.toNat (((l + 11 : Nat) : Int))) (v := av_b (av_b (av_shr c (0)))) F114 (show mfA 94 from rfl)
    have eh117 : hF (hwA h112 94 (Int.toNat (((l + 11 : Nat) : Int))) (av_b (av_b (av_shr c (0))))) 77 17 = ((l + 11 : Nat) : Int) := eh112
    generalize hwA h112 94 (Int.toNat (((l + 11 : Nat) : Int))) (av_b (av_b (av_shr c (0)))) = h117 at a118 F119 eh117 ⊢
    clear a113 F114 eh112
    have p122 : f120 = put4 f79 (l + 8) c := by rw [q121, q111, q101, q91]; rfl
    clear q121 q111 q101 q91
    refine av_wp_sqF ck_128 2 (pc' := 98) (lv' := [some (.inr (.inr (.inl (some (77))))), some (.inl a), some (.inl b), some (.inl c), some (.inl d), some (.inl e), some (.inl (11)), some (.inl c)]) (st' := [.inr (.inr (.inl (some (77)))), .inr (.inr (.inl (some (77))))]) (h' := h117) rfl ?_
    refine wq_gi (p' := 101) (ck_128 _ _ rfl) rfl (congrArg Prod.fst (ly_k (FE_ly F119 L) 77 rfl)) rfl (eh117) ?_
    refine av_wp_sqF ck_128 2 (pc' := 103) (lv' := [some (.inr (.inr (.inl (some (77))))), some (.inl a), some (.inl b), some (.inl c), some (.inl d), some (.inl e), some (.inl (11)), some (.inl c)]) (st' := [.inl (((l + 11 : Nat) : Int) + (1)), .inr (.inr (.inl (some (77))))]) (h' := h117) rfl ?_
    refine wq_pi (p' := 106) (ck_128 _ _ rfl) rfl (congrArg Prod.fst (ly_k (FE_ly F119 L) 77 rfl)) rfl ?_
    rw [show (((l + 11 : Nat) : Int) + (1)) = ((l + 12 : Nat) : Int) by omega]
    have a124 : hA (hwF h117 77 17 ((l + 12 : Nat) : Int)) 94 = f120 := a118
    have F125 := FE_wF (v := ((l + 12 : Nat) : Int)) F119 (show mfF 77 17 from ⟨rfl, rfl⟩)
    have eh123 : hF (hwF h117 77 17 ((l + 12 : Nat) : Int)) 77 17 = ((l + 12 : Nat) : Int) := hF_self
    generalize hwF h117 77 17 ((l + 12 : Nat) : Int) = h123 at a124 F125 eh123 ⊢
    clear a118 F119 eh117
    refine av_wp_sqF ck_128 12 (pc' := 48) (lv' := [some (.inr (.inr (.inl (some (77))))), some (.inl a), some (.inl b), some (.inl c), some (.inl d), some (.inl e), some (.inl (12)), some (.inl c)]) (st' := [.inl (12)]) (h' := h123) rfl ?_
    refine av_wp_sqF ck_128 9 (pc' := 74) (lv' := [some (.inr (.inr (.inl (some (77))))), some (.inl a), some (.inl b), some (.inl c), some (.inl d), some (.inl e), some (.inl (12)), some (.inl d)]) (st' := [.inr (.inr (.inl (some (77))))]) (h' := h123) rfl ?_
    refine wq_gr (p' := 77) (ck_128 _ _ rfl) rfl (congrArg Prod.fst (ly_k (FE_ly F125 L) 77 rfl)) rfl (ly_g (FE_ly F125 L) 77 16 94 rfl) ?_
    refine av_wp_sqF ck_128 1 (pc' := 78) (lv' := [some (.inr (.inr (.inl (some (77))))), some (.inl a), some (.inl b), some (.inl c), some (.inl d), some (.inl e), some (.inl (12)), some (.inl d)]) (st' := [.inr (.inr (.inl (some (77)))), .inr (.inr (.inl (some (94))))]) (h' := h123) rfl ?_
    refine wq_gi (p' := 81) (ck_128 _ _ rfl) rfl (congrArg Prod.fst (ly_k (FE_ly F125 L) 77 rfl)) rfl (eh123) ?_
    refine av_wp_sqF ck_128 5 (pc' := 90) (lv' := [some (.inr (.inr (.inl (some (77))))), some (.inl a), some (.inl b), some (.inl c), some (.inl d), some (.inl e), some (.inl (12)), some (.inl d)]) (st' := [.inl (4), .inl (12), .inl (8), .inl (24), .inl d, .inl ((l + 12 : Nat) : Int), .inr (.inr (.inl (some (94))))]) (h' := h123) rfl ?_
    refine wq_rm (p' := 91) (ck_128 _ _ rfl) rfl ⟨by decide, by decide⟩ (by decide) (fun v126 e127 => ?_)
    have e127 : v126 = 0 := e127 ⟨by decide, by decide⟩
    subst e127
    refine av_wp_sqF ck_128 4 (pc' := 95) (lv' := [some (.inr (.inr (.inl (some (77))))), some (.inl a), some (.inl b), some (.inl c), some (.inl d), some (.inl e), some (.inl (12)), some (.inl d)]) (st' := [.inl (av_b (av_shr d (24))), .inl ((l + 12 : Nat) : Int), .inr (.inr (.inl (some (94))))]) (h' := h123) rfl ?_
    refine wq_bs (p' := 96) (n := 900) (ck_128 _ _ rfl) rfl (ly_k (FE_ly F125 L) 94 rfl) (by omega) ?_
    obtain ⟨f131, q132⟩ : ∃ f, f = av_u1 f120 (l + 12) (bt d 24) := ⟨_, rfl⟩
    have a129 : hA (hwA h123 94 (Int.toNat (((l + 12 : Nat) : Int))) (av_b (av_b (av_shr d (24))))) 94 = f131 := by rw [hA_wu, a124, show Int.toNat (((l + 12 : Nat) : Int)) = l + 12 by omega, q132]; rfl
    have F130 := FE_wA (eF := mfF) (j := Int.toNat (((l + 12 : Nat) : Int))) (v := av_b (av_b (av_shr d (24)))) F125 (show mfA 94 from rfl)
    have eh128 : hF (hwA h123 94 (Int.toNat (((l + 12 : Nat) : Int))) (av_b (av_b (av_shr d (24))))) 77 17 = ((l + 12 : Nat) : Int) := eh123
    generalize hwA h123 94 (Int.toNat (((l + 12 : Nat) : Int))) (av_b (av_b (av_shr d (24)))) = h128 at a129 F130 eh128 ⊢
    clear a124 F125 eh123
    refine av_wp_sqF ck_128 2 (pc' := 98) (lv' := [some (.inr (.inr (.inl (some (77))))), some (.inl a), some (.inl b), some (.inl c), some (.inl d), some (.inl e), some (.inl (12)), some (.inl d)]) (st' := [.inr (.inr (.inl (some (77)))), .inr (.inr (.inl (some (77))))]) (h' := h128) rfl ?_
    refine wq_gi (p' := 101) (ck_128 _ _ rfl) rfl (congrArg Prod.fst (ly_k (FE_ly F130 L) 77 rfl)) rfl (eh128) ?_
    refine av_wp_sqF ck_128 2 (pc' := 103) (lv' := [some (.inr (.inr (.inl (some (77))))), some (.inl a), some (.inl b), some (.inl c), some (.inl d), some (.inl e), some (.inl (12)), some (.inl d)]) (st' := [.inl (((l + 12 : Nat) : Int) + (1)), .inr (.inr (.inl (some (77))))]) (h' := h128) rfl ?_
    refine wq_pi (p' := 106) (ck_128 _ _ rfl) rfl (congrArg Prod.fst (ly_k (FE_ly F130 L) 77 rfl)) rfl ?_
    rw [show (((l + 12 : Nat) : Int) + (1)) = ((l + 13 : Nat) : Int) by omega]
    have a134 : hA (hwF h128 77 17 ((l + 13 : Nat) : Int)) 94 = f131 := a129
    have F135 := FE_wF (v := ((l + 13 : Nat) : Int)) F130 (show mfF 77 17 from ⟨rfl, rfl⟩)
    have eh133 : hF (hwF h128 77 17 ((l + 13 : Nat) : Int)) 77 17 = ((l + 13 : Nat) : Int) := hF_self
    generalize hwF h128 77 17 ((l + 13 : Nat) : Int) = h133 at a134 F135 eh133 ⊢
    clear a129 F130 eh128
    refine av_wp_sqF ck_128 12 (pc' := 48) (lv' := [some (.inr (.inr (.inl (some (77))))), some (.inl a), some (.inl b), some (.inl c), some (.inl d), some (.inl e), some (.inl (13)), some (.inl d)]) (st' := [.inl (13)]) (h' := h133) rfl ?_
    refine av_wp_sqF ck_128 9 (pc' := 74) (lv' := [some (.inr (.inr (.inl (some (77))))), some (.inl a), some (.inl b), some (.inl c), some (.inl d), some (.inl e), some (.inl (13)), some (.inl d)]) (st' := [.inr (.inr (.inl (some (77))))]) (h' := h133) rfl ?_
    refine wq_gr (p' := 77) (ck_128 _ _ rfl) rfl (congrArg Prod.fst (ly_k (FE_ly F135 L) 77 rfl)) rfl (ly_g (FE_ly F135 L) 77 16 94 rfl) ?_
    refine av_wp_sqF ck_128 1 (pc' := 78) (lv' := [some (.inr (.inr (.inl (some (77))))), some (.inl a), some (.inl b), some (.inl c), some (.inl d), some (.inl e), some (.inl (13)), some (.inl d)]) (st' := [.inr (.inr (.inl (some (77)))), .inr (.inr (.inl (some (94))))]) (h' := h133) rfl ?_
    refine wq_gi (p' := 81) (ck_128 _ _ rfl) rfl (congrArg Prod.fst (ly_k (FE_ly F135 L) 77 rfl)) rfl (eh133) ?_
    refine av_wp_sqF ck_128 5 (pc' := 90) (lv' := [some (.inr (.inr (.inl (some (77))))), some (.inl a), some (.inl b), some (.inl c), some (.inl d), some (.inl e), some (.inl (13)), some (.inl d)]) (st' := [.inl (4), .inl (13), .inl (8), .inl (24), .inl d, .inl ((l + 13 : Nat) : Int), .inr (.inr (.inl (some (94))))]) (h' := h133) rfl ?_
    refine wq_rm (p' := 91) (ck_128 _ _ rfl) rfl ⟨by decide, by decide⟩ (by decide) (fun v136 e137 => ?_)
    have e137 : v136 = 1 := e137 ⟨by decide, by decide⟩
    subst e137
    refine av_wp_sqF ck_128 4 (pc' := 95) (lv' := [some (.inr (.inr (.inl (some (77))))), some (.inl a), some (.inl b), some (.inl c), some (.inl d), some (.inl e), some (.inl (13)), some (.inl d)]) (st' := [.inl (av_b (av_shr d (16))), .inl ((l + 13 : Nat) : Int), .inr (.inr (.inl (some (94))))]) (h' := h133) rfl ?_
    refine wq_bs (p' := 96) (n := 900) (ck_128 _ _ rfl) rfl (ly_k (FE_ly F135 L) 94 rfl) (by omega) ?_
    obtain ⟨f141, q142⟩ : ∃ f, f = av_u1 f131 (l + 13) (bt d 16) := ⟨_, rfl⟩
    have a139 : hA (hwA h133 94 (Int.toNat (((l + 13 : Nat) : Int))) (av_b (av_b (av_shr d (16))))) 94 = f141 := by rw [hA_wu, a134, show Int.toNat (((l + 13 : Nat) : Int)) = l + 13 by omega, q142]; rfl
    have F140 := FE_wA (eF := mfF) (j := Int.toNat (((l + 13 : Nat) : Int))) (v := av_b (av_b (av_shr d (16)))) F135 (show mfA 94 from rfl)
    have eh138 : hF (hwA h133 94 (Int.toNat (((l + 13 : Nat) : Int))) (av_b (av_b (av_shr d (16))))) 77 17 = ((l + 13 : Nat) : Int) := eh133
    generalize hwA h133 94 (Int.toNat (((l + 13 : Nat) : Int))) (av_b (av_b (av_shr d (16)))) = h138 at a139 F140 eh138 ⊢
    clear a134 F135 eh133
    refine av_wp_sqF ck_128 2 (pc' := 98) (lv' := [some (.inr (.inr (.inl (some (77))))), some (.inl a), some (.inl b), some (.inl c), some (.inl d), some (.inl e), some (.inl (13)), some (.inl d)]) (st' := [.inr (.inr (.inl (some (77)))), .inr (.inr (.inl (some (77))))]) (h' := h138) rfl ?_
    refine wq_gi (p' := 101) (ck_128 _ _ rfl) rfl (congrArg Prod.fst (ly_k (FE_ly F140 L) 77 rfl)) rfl (eh138) ?_
    refine av_wp_sqF ck_128 2 (pc' := 103) (lv' := [some (.inr (.inr (.inl (some (77))))), some (.inl a), some (.inl b), some (.inl c), some (.inl d), some (.inl e), some (.inl (13)), some (.inl d)]) (st' := [.inl (((l + 13 : Nat) : Int) + (1)), .inr (.inr (.inl (some (77))))]) (h' := h138) rfl ?_
    refine wq_pi (p' := 106) (ck_128 _ _ rfl) rfl (congrArg Prod.fst (ly_k (FE_ly F140 L) 77 rfl)) rfl ?_
    rw [show (((l + 13 : Nat) : Int) + (1)) = ((l + 14 : Nat) : Int) by omega]
    have a144 : hA (hwF h138 77 17 ((l + 14 : Nat) : Int)) 94 = f141 := a139
    have F145 := FE_wF (v := ((l + 14 : Nat) : Int)) F140 (show mfF 77 17 from ⟨rfl, rfl⟩)
    have eh143 : hF (hwF h138 77 17 ((l + 14 : Nat) : Int)) 77 17 = ((l + 14 : Nat) : Int) := hF_self
    generalize hwF h138 77 17 ((l + 14 : Nat) : Int) = h143 at a144 F145 eh143 ⊢
    clear a139 F140 eh138
    refine av_wp_sqF ck_128 12 (pc' := 48) (lv' := [some (.inr (.inr (.inl (some (77))))), some (.inl a), some (.inl b), some (.inl c), some (.inl d), some (.inl e), some (.inl (14)), some (.inl d)]) (st' := [.inl (14)]) (h' := h143) rfl ?_
    refine av_wp_sqF ck_128 9 (pc' := 74) (lv' := [some (.inr (.inr (.inl (some (77))))), some (.inl a), some (.inl b), some (.inl c), some (.inl d), some (.inl e), some (.inl (14)), some (.inl d)]) (st' := [.inr (.inr (.inl (some (77))))]) (h' := h143) rfl ?_
    refine wq_gr (p' := 77) (ck_128 _ _ rfl) rfl (congrArg Prod.fst (ly_k (FE_ly F145 L) 77 rfl)) rfl (ly_g (FE_ly F145 L) 77 16 94 rfl) ?_
    refine av_wp_sqF ck_128 1 (pc' := 78) (lv' := [some (.inr (.inr (.inl (some (77))))), some (.inl a), some (.inl b), some (.inl c), some (.inl d), some (.inl e), some (.inl (14)), some (.inl d)]) (st' := [.inr (.inr (.inl (some (77)))), .inr (.inr (.inl (some (94))))]) (h' := h143) rfl ?_
    refine wq_gi (p' := 81) (ck_128 _ _ rfl) rfl (congrArg Prod.fst (ly_k (FE_ly F145 L) 77 rfl)) rfl (eh143) ?_
    refine av_wp_sqF ck_128 5 (pc' := 90) (lv' := [some (.inr (.inr (.inl (some (77))))), some (.inl a), some (.inl b), some (.inl c), some (.inl d), some (.inl e), some (.inl (14)), some (.inl d)]) (st' := [.inl (4), .inl (14), .inl (8), .inl (24), .inl d, .inl ((l + 14 : Nat) : Int), .inr (.inr (.inl (some (94))))]) (h' := h143) rfl ?_
    refine wq_rm (p' := 91) (ck_128 _ _ rfl) rfl ⟨by decide, by decide⟩ (by decide) (fun v146 e147 => ?_)
    have e147 : v146 = 2 := e147 ⟨by decide, by decide⟩
    subst e147
    refine av_wp_sqF ck_128 4 (pc' := 95) (lv' := [some (.inr (.inr (.inl (some (77))))), some (.inl a), some (.inl b), some (.inl c), some (.inl d), some (.inl e), some (.inl (14)), some (.inl d)]) (st' := [.inl (av_b (av_shr d (8))), .inl ((l + 14 : Nat) : Int), .inr (.inr (.inl (some (94))))]) (h' := h143) rfl ?_
    refine wq_bs (p' := 96) (n := 900) (ck_128 _ _ rfl) rfl (ly_k (FE_ly F145 L) 94 rfl) (by omega) ?_
    obtain ⟨f151, q152⟩ : ∃ f, f = av_u1 f141 (l + 14) (bt d 8) := ⟨_, rfl⟩
    have a149 : hA (hwA h143 94 (Int.toNat (((l + 14 : Nat) : Int))) (av_b (av_b (av_shr d (8))))) 94 = f151 := by rw [hA_wu, a144, show Int.toNat (((l + 14 : Nat) : Int)) = l + 14 by omega, q152]; rfl
    have F150 := FE_wA (eF := mfF) (j := Int.toNat (((l + 14 : Nat) : Int))) (v := av_b (av_b (av_shr d (8)))) F145 (show mfA 94 from rfl)
    have eh148 : hF (hwA h143 94 (Int.toNat (((l + 14 : Nat) : Int))) (av_b (av_b (av_shr d (8))))) 77 17 = ((l + 14 : Nat) : Int) := eh143
    generalize hwA h143 94 (Int.toNat (((l + 14 : Nat) : Int))) (av_b (av_b (av_shr d (8)))) = h148 at a149 F150 eh148 ⊢
    clear a144 F145 eh143
    refine av_wp_sqF ck_128 2 (pc' := 98) (lv' := [some (.inr (.inr (.inl (some (77))))), some (.inl a), some (.inl b), some (.inl c), some (.inl d), some (.inl e), some (.inl (14)), some (.inl d)]) (st' := [.inr (.inr (.inl (some (77)))), .inr (.inr (.inl (some (77))))]) (h' := h148) rfl ?_
    refine wq_gi (p' := 101) (ck_128 _ _ rfl) rfl (congrArg Prod.fst (ly_k (FE_ly F150 L) 77 rfl)) rfl (eh148) ?_
    refine av_wp_sqF ck_128 2 (pc' := 103) (lv' := [some (.inr (.inr (.inl (some (77))))), some (.inl a), some (.inl b), some (.inl c), some (.inl d), some (.inl e), some (.inl (14)), some (.inl d)]) (st' := [.inl (((l + 14 : Nat) : Int) + (1)), .inr (.inr (.inl (some (77))))]) (h' := h148) rfl ?_
    refine wq_pi (p' := 106) (ck_128 _ _ rfl) rfl (congrArg Prod.fst (ly_k (FE_ly F150 L) 77 rfl)) rfl ?_
    rw [show (((l + 14 : Nat) : Int) + (1)) = ((l + 15 : Nat) : Int) by omega]
    have a154 : hA (hwF h148 77 17 ((l + 15 : Nat) : Int)) 94 = f151 := a149
    have F155 := FE_wF (v := ((l + 15 : Nat) : Int)) F150 (show mfF 77 17 from ⟨rfl, rfl⟩)
    have eh153 : hF (hwF h148 77 17 ((l + 15 : Nat) : Int)) 77 17 = ((l + 15 : Nat) : Int) := hF_self
    generalize hwF h148 77 17 ((l + 15 : Nat) : Int) = h153 at a154 F155 eh153 ⊢
    clear a149 F150 eh148
    refine av_wp_sqF ck_128 12 (pc' := 48) (lv' := [some (.inr (.inr (.inl (some (77))))), some (.inl a), some (.inl b), some (.inl c), some (.inl d), some (.inl e), some (.inl (15)), some (.inl d)]) (st' := [.inl (15)]) (h' := h153) rfl ?_
    refine av_wp_sqF ck_128 9 (pc' := 74) (lv' := [some (.inr (.inr (.inl (some (77))))), some (.inl a), some (.inl b), some (.inl c), some (.inl d), some (.inl e), some (.inl (15)), some (.inl d)]) (st' := [.inr (.inr (.inl (some (77))))]) (h' := h153) rfl ?_
    refine wq_gr (p' := 77) (ck_128 _ _ rfl) rfl (congrArg Prod.fst (ly_k (FE_ly F155 L) 77 rfl)) rfl (ly_g (FE_ly F155 L) 77 16 94 rfl) ?_
    refine av_wp_sqF ck_128 1 (pc' := 78) (lv' := [some (.inr (.inr (.inl (some (77))))), some (.inl a), some (.inl b), some (.inl c), some (.inl d), some (.inl e), some (.inl (15)), some (.inl d)]) (st' := [.inr (.inr (.inl (some (77)))), .inr (.inr (.inl (some (94))))]) (h' := h153) rfl ?_
    refine wq_gi (p' := 81) (ck_128 _ _ rfl) rfl (congrArg Prod.fst (ly_k (FE_ly F155 L) 77 rfl)) rfl (eh153) ?_
    refine av_wp_sqF ck_128 5 (pc' := 90) (lv' := [some (.inr (.inr (.inl (some (77))))), some (.inl a), some (.inl b), some (.inl c), some (.inl d), some (.inl e), some (.inl (15)), some (.inl d)]) (st' := [.inl (4), .inl (15), .inl (8), .inl (24), .inl d, .inl ((l + 15 : Nat) : Int), .inr (.inr (.inl (some (94))))]) (h' := h153) rfl ?_
    refine wq_rm (p' := 91) (ck_128 _ _ rfl) rfl ⟨by decide, by decide⟩ (by decide) (fun v156 e157 => ?_)
    have e157 : v156 = 3 := e157 ⟨by decide, by decide⟩
    subst e157
    refine av_wp_sqF ck_128 4 (pc' := 95) (lv' := [some (.inr (.inr (.inl (some (77))))), some (.inl a), some (.inl b), some (.inl c), some (.inl d), some (.inl e), some (.inl (15)), some (.inl d)]) (st' := [.inl (av_b (av_shr d (0))), .inl ((l + 15 : Nat) : Int), .inr (.inr (.inl (some (94))))]) (h' := h153) rfl ?_
    refine wq_bs (p' := 96) (n := 900) (ck_128 _ _ rfl) rfl (ly_k (FE_ly F155 L) 94 rfl) (by omega) ?_
    obtain ⟨f161, q162⟩ : ∃ f, f = av_u1 f151 (l + 15) (bt d 0) := ⟨_, rfl⟩
    have a159 : hA (hwA h153 94 (Int.toNat (((l + 15 : Nat) : Int))) (av_b (av_b (av_shr d (0))))) 94 = f161 := by rw [hA_wu, a154, show Int.toNat (((l + 15 : Nat) : Int)) = l + 15 by omega, q162]; rfl
    have F160 := FE_wA (eF := mfF) (j := Int.toNat (((l + 15 : Nat) : Int))) (v := av_b (av_b (av_shr d (0)))) F155 (show mfA 94 from rfl)
    have eh158 : hF (hwA h153 94 (Int.toNat (((l + 15 : Nat) : Int))) (av_b (av_b (av_shr d (0))))) 77 17 = ((l + 15 : Nat) : Int) := eh153
    generalize hwA h153 94 (Int.toNat (((l + 15 : Nat) : Int))) (av_b (av_b (av_shr d (0)))) = h158 at a159 F160 eh158 ⊢
    clear a154 F155 eh153
    have p163 : f161 = put4 f120 (l + 12) d := by rw [q162, q152, q142, q132]; rfl
    clear q162 q152 q142 q132
    refine av_wp_sqF ck_128 2 (pc' := 98) (lv' := [some (.inr (.inr (.inl (some (77))))), some (.inl a), some (.inl b), some (.inl c), some (.inl d), some (.inl e), some (.inl (15)), some (.inl d)]) (st' := [.inr (.inr (.inl (some (77)))), .inr (.inr (.inl (some (77))))]) (h' := h158) rfl ?_
    refine wq_gi (p' := 101) (ck_128 _ _ rfl) rfl (congrArg Prod.fst (ly_k (FE_ly F160 L) 77 rfl)) rfl (eh158) ?_
    refine av_wp_sqF ck_128 2 (pc' := 103) (lv' := [some (.inr (.inr (.inl (some (77))))), some (.inl a), some (.inl b), some (.inl c), some (.inl d), some (.inl e), some (.inl (15)), some (.inl d)]) (st' := [.inl (((l + 15 : Nat) : Int) + (1)), .inr (.inr (.inl (some (77))))]) (h' := h158) rfl ?_
    refine wq_pi (p' := 106) (ck_128 _ _ rfl) rfl (congrArg Prod.fst (ly_k (FE_ly F160 L) 77 rfl)) rfl ?_
    rw [show (((l + 15 : Nat) : Int) + (1)) = ((l + 16 : Nat) : Int) by omega]
    have a165 : hA (hwF h158 77 17 ((l + 16 : Nat) : Int)) 94 = f161 := a159
    have F166 := FE_wF (v := ((l + 16 : Nat) : Int)) F160 (show mfF 77 17 from ⟨rfl, rfl⟩)
    have eh164 : hF (hwF h158 77 17 ((l + 16 : Nat) : Int)) 77 17 = ((l + 16 : Nat) : Int) := hF_self
    generalize hwF h158 77 17 ((l + 16 : Nat) : Int) = h164 at a165 F166 eh164 ⊢
    clear a159 F160 eh158
    refine av_wp_sqF ck_128 12 (pc' := 48) (lv' := [some (.inr (.inr (.inl (some (77))))), some (.inl a), some (.inl b), some (.inl c), some (.inl d), some (.inl e), some (.inl (16)), some (.inl d)]) (st' := [.inl (16)]) (h' := h164) rfl ?_
    refine av_wp_sqF ck_128 8 (pc' := 74) (lv' := [some (.inr (.inr (.inl (some (77))))), some (.inl a), some (.inl b), some (.inl c), some (.inl d), some (.inl e), some (.inl (16)), some (.inl e)]) (st' := [.inr (.inr (.inl (some (77))))]) (h' := h164) rfl ?_
    refine wq_gr (p' := 77) (ck_128 _ _ rfl) rfl (congrArg Prod.fst (ly_k (FE_ly F166 L) 77 rfl)) rfl (ly_g (FE_ly F166 L) 77 16 94 rfl) ?_
    refine av_wp_sqF ck_128 1 (pc' := 78) (lv' := [some (.inr (.inr (.inl (some (77))))), some (.inl a), some (.inl b), some (.inl c), some (.inl d), some (.inl e), some (.inl (16)), some (.inl e)]) (st' := [.inr (.inr (.inl (some (77)))), .inr (.inr (.inl (some (94))))]) (h' := h164) rfl ?_
    refine wq_gi (p' := 81) (ck_128 _ _ rfl) rfl (congrArg Prod.fst (ly_k (FE_ly F166 L) 77 rfl)) rfl (eh164) ?_
    refine av_wp_sqF ck_128 5 (pc' := 90) (lv' := [some (.inr (.inr (.inl (some (77))))), some (.inl a), some (.inl b), some (.inl c), some (.inl d), some (.inl e), some (.inl (16)), some (.inl e)]) (st' := [.inl (4), .inl (16), .inl (8), .inl (24), .inl e, .inl ((l + 16 : Nat) : Int), .inr (.inr (.inl (some (94))))]) (h' := h164) rfl ?_
    refine wq_rm (p' := 91) (ck_128 _ _ rfl) rfl ⟨by decide, by decide⟩ (by decide) (fun v167 e168 => ?_)
    have e168 : v167 = 0 := e168 ⟨by decide, by decide⟩
    subst e168
    refine av_wp_sqF ck_128 4 (pc' := 95) (lv' := [some (.inr (.inr (.inl (some (77))))), some (.inl a), some (.inl b), some (.inl c), some (.inl d), some (.inl e), some (.inl (16)), some (.inl e)]) (st' := [.inl (av_b (av_shr e (24))), .inl ((l + 16 : Nat) : Int), .inr (.inr (.inl (some (94))))]) (h' := h164) rfl ?_
    refine wq_bs (p' := 96) (n := 900) (ck_128 _ _ rfl) rfl (ly_k (FE_ly F166 L) 94 rfl) (by omega) ?_
    obtain ⟨f172, q173⟩ : ∃ f, f = av_u1 f161 (l + 16) (bt e 24) := ⟨_, rfl⟩
    have a170 : hA (hwA h164 94 (Int.toNat (((l + 16 : Nat) : Int))) (av_b (av_b (av_shr e (24))))) 94 = f172 := by rw [hA_wu, a165, show Int.toNat (((l + 16 : Nat) : Int)) = l + 16 by omega, q173]; rfl
    have F171 := FE_wA (eF := mfF) (j := Int.toNat (((l + 16 : Nat) : Int))) (v := av_b (av_b (av_shr e (24)))) F166 (show mfA 94 from rfl)
    have eh169 : hF (hwA h164 94 (Int.toNat (((l + 16 : Nat) : Int))) (av_b (av_b (av_shr e (24))))) 77 17 = ((l + 16 : Nat) : Int) := eh164
    generalize hwA h164 94 (Int.toNat (((l + 16 : Nat) : Int))) (av_b (av_b (av_shr e (24)))) = h169 at a170 F171 eh169 ⊢
    clear a165 F166 eh164
    refine av_wp_sqF ck_128 2 (pc' := 98) (lv' := [some (.inr (.inr (.inl (some (77))))), some (.inl a), some (.inl b), some (.inl c), some (.inl d), some (.inl e), some (.inl (16)), some (.inl e)]) (st' := [.inr (.inr (.inl (some (77)))), .inr (.inr (.inl (some (77))))]) (h' := h169) rfl ?_
    refine wq_gi (p' := 101) (ck_128 _ _ rfl) rfl (congrArg Prod.fst (ly_k (FE_ly F171 L) 77 rfl)) rfl (eh169) ?_
    refine av_wp_sqF ck_128 2 (pc' := 103) (lv' := [some (.inr (.inr (.inl (some (77))))), some (.inl a), some (.inl b), some (.inl c), some (.inl d), some (.inl e), some (.inl (16)), some (.inl e)]) (st' := [.inl (((l + 16 : Nat) : Int) + (1)), .inr (.inr (.inl (some (77))))]) (h' := h169) rfl ?_
    refine wq_pi (p' := 106) (ck_128 _ _ rfl) rfl (congrArg Prod.fst (ly_k (FE_ly F171 L) 77 rfl)) rfl ?_
    rw [show (((l + 16 : Nat) : Int) + (1)) = ((l + 17 : Nat) : Int) by omega]
    have a175 : hA (hwF h169 77 17 ((l + 17 : Nat) : Int)) 94 = f172 := a170
    have F176 := FE_wF (v := ((l + 17 : Nat) : Int)) F171 (show mfF 77 17 from ⟨rfl, rfl⟩)
    have eh174 : hF (hwF h169 77 17 ((l + 17 : Nat) : Int)) 77 17 = ((l + 17 : Nat) : Int) := hF_self
    generalize hwF h169 77 17 ((l + 17 : Nat) : Int) = h174 at a175 F176 eh174 ⊢
    clear a170 F171 eh169
    refine av_wp_sqF ck_128 12 (pc' := 48) (lv' := [some (.inr (.inr (.inl (some (77))))), some (.inl a), some (.inl b), some (.inl c), some (.inl d), some (.inl e), some (.inl (17)), some (.inl e)]) (st' := [.inl (17)]) (h' := h174) rfl ?_
    refine av_wp_sqF ck_128 8 (pc' := 74) (lv' := [some (.inr (.inr (.inl (some (77))))), some (.inl a), some (.inl b), some (.inl c), some (.inl d), some (.inl e), some (.inl (17)), some (.inl e)]) (st' := [.inr (.inr (.inl (some (77))))]) (h' := h174) rfl ?_
    refine wq_gr (p' := 77) (ck_128 _ _ rfl) rfl (congrArg Prod.fst (ly_k (FE_ly F176 L) 77 rfl)) rfl (ly_g (FE_ly F176 L) 77 16 94 rfl) ?_
    refine av_wp_sqF ck_128 1 (pc' := 78) (lv' := [some (.inr (.inr (.inl (some (77))))), some (.inl a), some (.inl b), some (.inl c), some (.inl d), some (.inl e), some (.inl (17)), some (.inl e)]) (st' := [.inr (.inr (.inl (some (77)))), .inr (.inr (.inl (some (94))))]) (h' := h174) rfl ?_
    refine wq_gi (p' := 81) (ck_128 _ _ rfl) rfl (congrArg Prod.fst (ly_k (FE_ly F176 L) 77 rfl)) rfl (eh174) ?_
    refine av_wp_sqF ck_128 5 (pc' := 90) (lv' := [some (.inr (.inr (.inl (some (77))))), some (.inl a), some (.inl b), some (.inl c), some (.inl d), some (.inl e), some (.inl (17)), some (.inl e)]) (st' := [.inl (4), .inl (17), .inl (8), .inl (24), .inl e, .inl ((l + 17 : Nat) : Int), .inr (.inr (.inl (some (94))))]) (h' := h174) rfl ?_
    refine wq_rm (p' := 91) (ck_128 _ _ rfl) rfl ⟨by decide, by decide⟩ (by decide) (fun v177 e178 => ?_)
    have e178 : v177 = 1 := e178 ⟨by decide, by decide⟩
    subst e178
    refine av_wp_sqF ck_128 4 (pc' := 95) (lv' := [some (.inr (.inr (.inl (some (77))))), some (.inl a), some (.inl b), some (.inl c), some (.inl d), some (.inl e), some (.inl (17)), some (.inl e)]) (st' := [.inl (av_b (av_shr e (16))), .inl ((l + 17 : Nat) : Int), .inr (.inr (.inl (some (94))))]) (h' := h174) rfl ?_
    refine wq_bs (p' := 96) (n := 900) (ck_128 _ _ rfl) rfl (ly_k (FE_ly F176 L) 94 rfl) (by omega) ?_
    obtain ⟨f182, q183⟩ : ∃ f, f = av_u1 f172 (l + 17) (bt e 16) := ⟨_, rfl⟩
    have a180 : hA (hwA h174 94 (Int.toNat (((l + 17 : Nat) : Int))) (av_b (av_b (av_shr e (16))))) 94 = f182 := by rw [hA_wu, a175, show Int.toNat (((l + 17 : Nat) : Int)) = l + 17 by omega, q183]; rfl
    have F181 := FE_wA (eF := mfF) (j := Int.toNat (((l + 17 : Nat) : Int))) (v := av_b (av_b (av_shr e (16)))) F176 (show mfA 94 from rfl)
    have eh179 : hF (hwA h174 94 (Int.toNat (((l + 17 : Nat) : Int))) (av_b (av_b (av_shr e (16))))) 77 17 = ((l + 17 : Nat) : Int) := eh174
    generalize hwA h174 94 (Int.toNat (((l + 17 : Nat) : Int))) (av_b (av_b (av_shr e (16)))) = h179 at a180 F181 eh179 ⊢
    clear a175 F176 eh174
    refine av_wp_sqF ck_128 2 (pc' := 98) (lv' := [some (.inr (.inr (.inl (some (77))))), some (.inl a), some (.inl b), some (.inl c), some (.inl d), some (.inl e), some (.inl (17)), some (.inl e)]) (st' := [.inr (.inr (.inl (some (77)))), .inr (.inr (.inl (some (77))))]) (h' := h179) rfl ?_
    refine wq_gi (p' := 101) (ck_128 _ _ rfl) rfl (congrArg Prod.fst (ly_k (FE_ly F181 L) 77 rfl)) rfl (eh179) ?_
    refine av_wp_sqF ck_128 2 (pc' := 103) (lv' := [some (.inr (.inr (.inl (some (77))))), some (.inl a), some (.inl b), some (.inl c), some (.inl d), some (.inl e), some (.inl (17)), some (.inl e)]) (st' := [.inl (((l + 17 : Nat) : Int) + (1)), .inr (.inr (.inl (some (77))))]) (h' := h179) rfl ?_
    refine wq_pi (p' := 106) (ck_128 _ _ rfl) rfl (congrArg Prod.fst (ly_k (FE_ly F181 L) 77 rfl)) rfl ?_
    rw [show (((l + 17 : Nat) : Int) + (1)) = ((l + 18 : Nat) : Int) by omega]
    have a185 : hA (hwF h179 77 17 ((l + 18 : Nat) : Int)) 94 = f182 := a180
    have F186 := FE_wF (v := ((l + 18 : Nat) : Int)) F181 (show mfF 77 17 from ⟨rfl, rfl⟩)
    have eh184 : hF (hwF h179 77 17 ((l + 18 : Nat) : Int)) 77 17 = ((l + 18 : Nat) : Int) := hF_self
    generalize hwF h179 77 17 ((l + 18 : Nat) : Int) = h184 at a185 F186 eh184 ⊢
    clear a180 F181 eh179
    refine av_wp_sqF ck_128 12 (pc' := 48) (lv' := [some (.inr (.inr (.inl (some (77))))), some (.inl a), some (.inl b), some (.inl c), some (.inl d), some (.inl e), some (.inl (18)), some (.inl e)]) (st' := [.inl (18)]) (h' := h184) rfl ?_
    refine av_wp_sqF ck_128 8 (pc' := 74) (lv' := [some (.inr (.inr (.inl (some (77))))), some (.inl a), some (.inl b), some (.inl c), some (.inl d), some (.inl e), some (.inl (18)), some (.inl e)]) (st' := [.inr (.inr (.inl (some (77))))]) (h' := h184) rfl ?_
    refine wq_gr (p' := 77) (ck_128 _ _ rfl) rfl (congrArg Prod.fst (ly_k (FE_ly F186 L) 77 rfl)) rfl (ly_g (FE_ly F186 L) 77 16 94 rfl) ?_
    refine av_wp_sqF ck_128 1 (pc' := 78) (lv' := [some (.inr (.inr (.inl (some (77))))), some (.inl a), some (.inl b), some (.inl c), some (.inl d), some (.inl e), some (.inl (18)), some (.inl e)]) (st' := [.inr (.inr (.inl (some (77)))), .inr (.inr (.inl (some (94))))]) (h' := h184) rfl ?_
    refine wq_gi (p' := 81) (ck_128 _ _ rfl) rfl (congrArg Prod.fst (ly_k (FE_ly F186 L) 77 rfl)) rfl (eh184) ?_
    refine av_wp_sqF ck_128 5 (pc' := 90) (lv' := [some (.inr (.inr (.inl (some (77))))), some (.inl a), some (.inl b), some (.inl c), some (.inl d), some (.inl e), some (.inl (18)), some (.inl e)]) (st' := [.inl (4), .inl (18), .inl (8), .inl (24), .inl e, .inl ((l + 18 : Nat) : Int), .inr (.inr (.inl (some (94))))]) (h' := h184) rfl ?_
    refine wq_rm (p' := 91) (ck_128 _ _ rfl) rfl ⟨by decide, by decide⟩ (by decide) (fun v187 e188 => ?_)
    have e188 : v187 = 2 := e188 ⟨by decide, by decide⟩
    subst e188
    refine av_wp_sqF ck_128 4 (pc' := 95) (lv' := [some (.inr (.inr (.inl (some (77))))), some (.inl a), some (.inl b), some (.inl c), some (.inl d), some (.inl e), some (.inl (18)), some (.inl e)]) (st' := [.inl (av_b (av_shr e (8))), .inl ((l + 18 : Nat) : Int), .inr (.inr (.inl (some (94))))]) (h' := h184) rfl ?_
    refine wq_bs (p' := 96) (n := 900) (ck_128 _ _ rfl) rfl (ly_k (FE_ly F186 L) 94 rfl) (by omega) ?_
    obtain ⟨f192, q193⟩ : ∃ f, f = av_u1 f182 (l + 18) (bt e 8) := ⟨_, rfl⟩
    have a190 : hA (hwA h184 94 (Int.toNat (((l + 18 : Nat) : Int))) (av_b (av_b (av_shr e (8))))) 94 = f192 := by rw [hA_wu, a185, show Int.toNat (((l + 18 : Nat) : Int)) = l + 18 by omega, q193]; rfl
    have F191 := FE_wA (eF := mfF) (j := Int.toNat (((l + 18 : Nat) : Int))) (v := av_b (av_b (av_shr e (8)))) F186 (show mfA 94 from rfl)
    have eh189 : hF (hwA h184 94 (Int.toNat (((l + 18 : Nat) : Int))) (av_b (av_b (av_shr e (8))))) 77 17 = ((l + 18 : Nat) : Int) := eh184
    generalize hwA h184 94 (Int.toNat (((l + 18 : Nat) : Int))) (av_b (av_b (av_shr e (8)))) = h189 at a190 F191 eh189 ⊢
    clear a185 F186 eh184
    refine av_wp_sqF ck_128 2 (pc' := 98) (lv' := [some (.inr (.inr (.inl (some (77))))), some (.inl a), some (.inl b), some (.inl c), some (.inl d), some (.inl e), some (.inl (18)), some (.inl e)]) (st' := [.inr (.inr (.inl (some (77)))), .inr (.inr (.inl (some (77))))]) (h' := h189) rfl ?_
    refine wq_gi (p' := 101) (ck_128 _ _ rfl) rfl (congrArg Prod.fst (ly_k (FE_ly F191 L) 77 rfl)) rfl (eh189) ?_
    refine av_wp_sqF ck_128 2 (pc' := 103) (lv' := [some (.inr (.inr (.inl (some (77))))), some (.inl a), some (.inl b), some (.inl c), some (.inl d), some (.inl e), some (.inl (18)), some (.inl e)]) (st' := [.inl (((l + 18 : Nat) : Int) + (1)), .inr (.inr (.inl (some (77))))]) (h' := h189) rfl ?_
    refine wq_pi (p' := 106) (ck_128 _ _ rfl) rfl (congrArg Prod.fst (ly_k (FE_ly F191 L) 77 rfl)) rfl ?_
    rw [show (((l + 18 : Nat) : Int) + (1)) = ((l + 19 : Nat) : Int) by omega]
    have a195 : hA (hwF h189 77 17 ((l + 19 : Nat) : Int)) 94 = f192 := a190
    have F196 := FE_wF (v := ((l + 19 : Nat) : Int)) F191 (show mfF 77 17 from ⟨rfl, rfl⟩)
    have eh194 : hF (hwF h189 77 17 ((l + 19 : Nat) : Int)) 77 17 = ((l + 19 : Nat) : Int) := hF_self
    generalize hwF h189 77 17 ((l + 19 : Nat) : Int) = h194 at a195 F196 eh194 ⊢
    clear a190 F191 eh189
    refine av_wp_sqF ck_128 12 (pc' := 48) (lv' := [some (.inr (.inr (.inl (some (77))))), some (.inl a), some (.inl b), some (.inl c), some (.inl d), some (.inl e), some (.inl (19)), some (.inl e)]) (st' := [.inl (19)]) (h' := h194) rfl ?_
    refine av_wp_sqF ck_128 8 (pc' := 74) (lv' := [some (.inr (.inr (.inl (some (77))))), some (.inl a), some (.inl b), some (.inl c), some (.inl d), some (.inl e), some (.inl (19)), some (.inl e)]) (st' := [.inr (.inr (.inl (some (77))))]) (h' := h194) rfl ?_
    refine wq_gr (p' := 77) (ck_128 _ _ rfl) rfl (congrArg Prod.fst (ly_k (FE_ly F196 L) 77 rfl)) rfl (ly_g (FE_ly F196 L) 77 16 94 rfl) ?_
    refine av_wp_sqF ck_128 1 (pc' := 78) (lv' := [some (.inr (.inr (.inl (some (77))))), some (.inl a), some (.inl b), some (.inl c), some (.inl d), some (.inl e), some (.inl (19)), some (.inl e)]) (st' := [.inr (.inr (.inl (some (77)))), .inr (.inr (.inl (some (94))))]) (h' := h194) rfl ?_
    refine wq_gi (p' := 81) (ck_128 _ _ rfl) rfl (congrArg Prod.fst (ly_k (FE_ly F196 L) 77 rfl)) rfl (eh194) ?_
    refine av_wp_sqF ck_128 5 (pc' := 90) (lv' := [some (.inr (.inr (.inl (some (77))))), some (.inl a), some (.inl b), some (.inl c), some (.inl d), some (.inl e), some (.inl (19)), some (.inl e)]) (st' := [.inl (4), .inl (19), .inl (8), .inl (24), .inl e, .inl ((l + 19 : Nat) : Int), .inr (.inr (.inl (some (94))))]) (h' := h194) rfl ?_
    refine wq_rm (p' := 91) (ck_128 _ _ rfl) rfl ⟨by decide, by decide⟩ (by decide) (fun v197 e198 => ?_)
    have e198 : v197 = 3 := e198 ⟨by decide, by decide⟩
    subst e198
    refine av_wp_sqF ck_128 4 (pc' := 95) (lv' := [some (.inr (.inr (.inl (some (77))))), some (.inl a), some (.inl b), some (.inl c), some (.inl d), some (.inl e), some (.inl (19)), some (.inl e)]) (st' := [.inl (av_b (av_shr e (0))), .inl ((l + 19 : Nat) : Int), .inr (.inr (.inl (some (94))))]) (h' := h194) rfl ?_
    refine wq_bs (p' := 96) (n := 900) (ck_128 _ _ rfl) rfl (ly_k (FE_ly F196 L) 94 rfl) (by omega) ?_
    obtain ⟨f202, q203⟩ : ∃ f, f = av_u1 f192 (l + 19) (bt e 0) := ⟨_, rfl⟩
    have a200 : hA (hwA h194 94 (Int.toNat (((l + 19 : Nat) : Int))) (av_b (av_b (av_shr e (0))))) 94 = f202 := by rw [hA_wu, a195, show Int.toNat (((l + 19 : Nat) : Int)) = l + 19 by omega, q203]; rfl
    have F201 := FE_wA (eF := mfF) (j := Int.toNat (((l + 19 : Nat) : Int))) (v := av_b (av_b (av_shr e (0)))) F196 (show mfA 94 from rfl)
    have eh199 : hF (hwA h194 94 (Int.toNat (((l + 19 : Nat) : Int))) (av_b (av_b (av_shr e (0))))) 77 17 = ((l + 19 : Nat) : Int) := eh194
    generalize hwA h194 94 (Int.toNat (((l + 19 : Nat) : Int))) (av_b (av_b (av_shr e (0)))) = h199 at a200 F201 eh199 ⊢
    clear a195 F196 eh194
    have p204 : f202 = put4 f161 (l + 16) e := by rw [q203, q193, q183, q173]; rfl
    clear q203 q193 q183 q173
    refine av_wp_sqF ck_128 2 (pc' := 98) (lv' := [some (.inr (.inr (.inl (some (77))))), some (.inl a), some (.inl b), some (.inl c), some (.inl d), some (.inl e), some (.inl (19)), some (.inl e)]) (st' := [.inr (.inr (.inl (some (77)))), .inr (.inr (.inl (some (77))))]) (h' := h199) rfl ?_
    refine wq_gi (p' := 101) (ck_128 _ _ rfl) rfl (congrArg Prod.fst (ly_k (FE_ly F201 L) 77 rfl)) rfl (eh199) ?_
    refine av_wp_sqF ck_128 2 (pc' := 103) (lv' := [some (.inr (.inr (.inl (some (77))))), some (.inl a), some (.inl b), some (.inl c), some (.inl d), some (.inl e), some (.inl (19)), some (.inl e)]) (st' := [.inl (((l + 19 : Nat) : Int) + (1)), .inr (.inr (.inl (some (77))))]) (h' := h199) rfl ?_
    refine wq_pi (p' := 106) (ck_128 _ _ rfl) rfl (congrArg Prod.fst (ly_k (FE_ly F201 L) 77 rfl)) rfl ?_
    rw [show (((l + 19 : Nat) : Int) + (1)) = ((l + 20 : Nat) : Int) by omega]
    have a206 : hA (hwF h199 77 17 ((l + 20 : Nat) : Int)) 94 = f202 := a200
    have F207 := FE_wF (v := ((l + 20 : Nat) : Int)) F201 (show mfF 77 17 from ⟨rfl, rfl⟩)
    have eh205 : hF (hwF h199 77 17 ((l + 20 : Nat) : Int)) 77 17 = ((l + 20 : Nat) : Int) := hF_self
    generalize hwF h199 77 17 ((l + 20 : Nat) : Int) = h205 at a206 F207 eh205 ⊢
    clear a200 F201 eh199
    refine av_wp_sqF ck_128 6 (pc' := 113) (lv' := [some (.inr (.inr (.inl (some (77))))), some (.inl a), some (.inl b), some (.inl c), some (.inl d), some (.inl e), some (.inl (20)), some (.inl e)]) (st' := [.inr (.inr (.inl (some (77))))]) (h' := h205) rfl ?_
    refine wq_gi (p' := 116) (ck_128 _ _ rfl) rfl (congrArg Prod.fst (ly_k (FE_ly F207 L) 77 rfl)) rfl (eh205) ?_
    refine av_wp_ret (v := some (.inl ((l + 20 : Nat) : Int))) (ck_128 _ _ rfl) rfl rfl ?_
    rw [show ((l + 20 : Nat) : Int) = (l : Int) + 20 by omega]
    exact hq (by omega) h205 F207 (by rw [a206, p204, p163, p122, p81, p40]; rfl) (eh205.trans (by omega))
  · have c2 : (900) < ((l : Int) + (20)) := c2
    refine av_wp_sqF ck_128 1 (pc' := 14) (lv' := [some (.inr (.inr (.inl (some (77))))), some (.inl a), some (.inl b), some (.inl c), some (.inl d), some (.inl e), none, none]) (st' := [.inl (-1)]) (h' := h) rfl ?_
    refine av_wp_ret (v := some (.inl (-1))) (ck_128 _ _ rfl) rfl rfl ?_
    exact hqA (by omega)
end
