/-! FEED -/
/-- the same heap but for some rows and fields -/
def FE (eA : Nat → Prop) (eF : Nat → Nat → Prop) (g h : av_H) : Prop := h.1 = g.1 ∧ h.2.1 = g.2.1 ∧ hK h = hK g ∧ hG h = hG g ∧ hR h = hR g ∧ (∀ a, ¬ eA a → hA h a = hA g a) ∧ (∀ o f, ¬ eF o f → hF h o f = hF g o f)
theorem FE_rf {eA : Nat → Prop} {eF : Nat → Nat → Prop} (h : av_H) : FE eA eF h h := ⟨rfl, rfl, rfl, rfl, rfl, fun _ _ => rfl, fun _ _ _ => rfl⟩
theorem FE_tr {eA : Nat → Prop} {eF : Nat → Nat → Prop} {g h k : av_H} (a : FE eA eF g h) (c : FE eA eF h k) : FE eA eF g k := ⟨c.1.trans a.1, c.2.1.trans a.2.1, c.2.2.1.trans a.2.2.1, c.2.2.2.1.trans a.2.2.2.1, c.2.2.2.2.1.trans a.2.2.2.2.1, fun q e => (c.2.2.2.2.2.1 q e).trans (a.2.2.2.2.2.1 q e), fun q j e => (c.2.2.2.2.2.2 q j e).trans (a.2.2.2.2.2.2 q j e)⟩
theorem FE_ly {eA : Nat → Prop} {eF : Nat → Nat → Prop} {g h : av_H} (a : FE eA eF g h) (L : LY g) : LY h := ⟨fun q hq => by rw [a.2.2.1]; exact L.1 q hq, fun o f q e => by rw [a.2.2.2.1]; exact L.2.1 o f q e, fun i hi => by rw [a.2.2.2.2.1]; exact L.2.2.1 i hi, fun i hi => by rw [a.2.2.2.2.1]; exact L.2.2.2 i hi⟩
theorem FE_fq {eA eR : Nat → Prop} {eF eG : Nat → Nat → Prop} {g h : av_H} (a : FE eA eF g h) : FQ eA eR eF eG g h 0 0 := ⟨a.1, a.2.1, fun q _ => ⟨congrFun a.2.2.1 q, fun j _ => congrFun (congrFun a.2.2.2.1 q) j, fun e => a.2.2.2.2.2.1 q e, fun _ => congrFun a.2.2.2.2.1 q, fun j e => a.2.2.2.2.2.2 q j e⟩⟩
theorem FE_wA {eA : Nat → Prop} {eF : Nat → Nat → Prop} {g h : av_H} {a j : Nat} {v : Int} (F : FE eA eF g h) (e : eA a) : FE eA eF g (hwA h a j v) := ⟨F.1, F.2.1, F.2.2.1, F.2.2.2.1, F.2.2.2.2.1, fun q hq => (hA_ne (fun z => by rw [z] at hq; exact hq e)).trans (F.2.2.2.2.2.1 q hq), F.2.2.2.2.2.2⟩
theorem FE_wF {eA : Nat → Prop} {eF : Nat → Nat → Prop} {g h : av_H} {o f : Nat} {v : Int} (F : FE eA eF g h) (e : eF o f) : FE eA eF g (hwF h o f v) := ⟨F.1, F.2.1, F.2.2.1, F.2.2.2.1, F.2.2.2.2.1, F.2.2.2.2.2.1, fun q j hq => by
  show av_u2 h.2.2.2.2.1 o f v q j = _
  have hne : ¬ (q = o ∧ j = f) := fun z => by rw [z.1, z.2] at hq; exact hq e
  rw [av_u2, if_neg hne]
  exact F.2.2.2.2.2.2 q j hq⟩
def bt (v s : Int) : Int := av_b (av_b (av_shr v s))
theorem bt_r (v s : Int) : -128 ≤ bt v s ∧ bt v s ≤ 127 := by
  unfold bt av_b
  have h1 := Int.le_bmod (x := Int.bmod (av_shr v s) 256) (m := 256) (by decide)
  have h2 := Int.bmod_lt (x := Int.bmod (av_shr v s) 256) (m := 256) (by decide)
  constructor
  · have h3 : -((256 : Nat) : Int) / 2 = -128 := by decide
    omega
  · have h3 : (((256 : Nat) : Int) + 1) / 2 = 128 := by decide
    omega
def put4 (f : Nat → Int) (l : Nat) (v : Int) : Nat → Int := av_u1 (av_u1 (av_u1 (av_u1 f l (bt v 24)) (l + 1) (bt v 16)) (l + 2) (bt v 8)) (l + 3) (bt v 0)
def fd5 (f : Nat → Int) (l : Nat) (a b c d e : Int) : Nat → Int := put4 (put4 (put4 (put4 (put4 f l a) (l + 4) b) (l + 8) c) (l + 12) d) (l + 16) e
theorem u1_bd {f : Nat → Int} {i : Nat} {v : Int} (hf : ∀ j, -128 ≤ f j ∧ f j ≤ 127) (hv : -128 ≤ v ∧ v ≤ 127) (j : Nat) : -128 ≤ av_u1 f i v j ∧ av_u1 f i v j ≤ 127 := by
  unfold av_u1
  split
  · exact hv
  · exact hf j
theorem put4_bd {f : Nat → Int} {l : Nat} {v : Int} (hf : ∀ j, -128 ≤ f j ∧ f j ≤ 127) (j : Nat) : -128 ≤ put4 f l v j ∧ put4 f l v j ≤ 127 := u1_bd (u1_bd (u1_bd (u1_bd hf (bt_r _ _)) (bt_r _ _)) (bt_r _ _)) (bt_r _ _) j
theorem fd5_bd {f : Nat → Int} {l : Nat} {a b c d e : Int} (hf : ∀ j, -128 ≤ f j ∧ f j ≤ 127) (j : Nat) : -128 ≤ fd5 f l a b c d e j ∧ fd5 f l a b c d e j ≤ 127 := put4_bd (put4_bd (put4_bd (put4_bd (put4_bd hf)))) j
theorem hA_wu {h : av_H} {a j : Nat} {v : Int} : hA (hwA h a j v) a = av_u1 (hA h a) j v := by
  funext k
  show av_u2 h.2.2.2.1 a j v a k = av_u1 (hA h a) j v k
  unfold av_u2 av_u1
  by_cases e : k = j
  · rw [if_pos ⟨rfl, e⟩, if_pos e]
  · rw [if_neg (fun z => e z.2), if_neg e]
def fdA (a : Nat) : Prop := a = 2
def fdF (o f : Nat) : Prop := o = 1 ∧ f = 1

set_option maxRecDepth 100000 in
set_option maxHeartbeats 4000000 in
theorem ct_79 {h : av_H} (L : LY h) {l : Nat} (hl : hF h 1 1 = (l : Int)) (h896 : l ≤ 896) (x : Int) {Q : Option av_V → av_H → Prop} (hq : ∀ h', FE fdA fdF h h' → hA h' 2 = put4 (hA h 2) l x → hF h' 1 1 = ((l + 4 : Nat) : Int) → Q none h') : av_wp none cd_79 0 [some (.inr (.inr (.inl (some (1))))), some (.inl x), none] [] h Q := by
  refine av_wp_seq 5 (pc' := 8) (lv' := [some (.inr (.inr (.inl (some (1))))), some (.inl x), some (.inl (24))]) (st' := [.inr (.inr (.inl (some (1))))]) (h' := h) rfl ?_
  refine wq_gi (p' := 11) rfl rfl (congrArg Prod.fst (ly_k L 1 rfl)) rfl (hl) ?_
  refine av_wp_seq 1 (pc' := 14) (lv' := [some (.inr (.inr (.inl (some (1))))), some (.inl x), some (.inl (24))]) (st' := [.inl (900), .inl (l : Int)]) (h' := h) rfl ?_
  refine wq_k2 (p' := 17) rfl rfl ⟨by omega, by omega⟩ ⟨by omega, by omega⟩ (fun c1 => ?_) (fun c2 => ?_)
  · have c1 : (900) ≤ (l : Int) := c1
    exfalso; omega
  · have c2 : (l : Int) < (900) := c2
    refine av_wp_seq 1 (pc' := 18) (lv' := [some (.inr (.inr (.inl (some (1))))), some (.inl x), some (.inl (24))]) (st' := [.inr (.inr (.inl (some (1))))]) (h' := h) rfl ?_
    refine wq_gr (p' := 21) rfl rfl (congrArg Prod.fst (ly_k L 1 rfl)) rfl (ly_g L 1 0 2 rfl) ?_
    refine av_wp_seq 1 (pc' := 22) (lv' := [some (.inr (.inr (.inl (some (1))))), some (.inl x), some (.inl (24))]) (st' := [.inr (.inr (.inl (some (1)))), .inr (.inr (.inl (some (2))))]) (h' := h) rfl ?_
    refine wq_gi (p' := 25) rfl rfl (congrArg Prod.fst (ly_k L 1 rfl)) rfl (hl) ?_
    refine av_wp_seq 4 (pc' := 29) (lv' := [some (.inr (.inr (.inl (some (1))))), some (.inl x), some (.inl (24))]) (st' := [.inl (av_b (av_shr x (24))), .inl (l : Int), .inr (.inr (.inl (some (2))))]) (h' := h) rfl ?_
    refine wq_bs (p' := 30) (n := 900) rfl rfl (ly_k L 2 rfl) (by omega) ?_
    obtain ⟨f6, q7⟩ : ∃ f, f = av_u1 (hA h 2) (l + 0) (bt x 24) := ⟨_, rfl⟩
    have a4 : hA (hwA h 2 (Int.toNat ((l : Int))) (av_b (av_b (av_shr x (24))))) 2 = f6 := by rw [hA_wu, show Int.toNat ((l : Int)) = l + 0 by omega, q7]; rfl
    have F5 := FE_wA (eF := fdF) (j := Int.toNat ((l : Int))) (v := av_b (av_b (av_shr x (24)))) (FE_rf h) (show fdA 2 from rfl)
    have eh3 : hF (hwA h 2 (Int.toNat ((l : Int))) (av_b (av_b (av_shr x (24))))) 1 1 = (l : Int) := hl
    generalize hwA h 2 (Int.toNat ((l : Int))) (av_b (av_b (av_shr x (24)))) = h3 at a4 F5 eh3 ⊢
    refine av_wp_seq 2 (pc' := 32) (lv' := [some (.inr (.inr (.inl (some (1))))), some (.inl x), some (.inl (24))]) (st' := [.inr (.inr (.inl (some (1)))), .inr (.inr (.inl (some (1))))]) (h' := h3) rfl ?_
    refine wq_gi (p' := 35) rfl rfl (congrArg Prod.fst (ly_k (FE_ly F5 L) 1 rfl)) rfl (eh3) ?_
    refine av_wp_seq 2 (pc' := 37) (lv' := [some (.inr (.inr (.inl (some (1))))), some (.inl x), some (.inl (24))]) (st' := [.inl ((l : Int) + (1)), .inr (.inr (.inl (some (1))))]) (h' := h3) rfl ?_
    refine wq_pi (p' := 40) rfl rfl (congrArg Prod.fst (ly_k (FE_ly F5 L) 1 rfl)) rfl ?_
    rw [show ((l : Int) + (1)) = ((l + 1 : Nat) : Int) by omega]
    have a9 : hA (hwF h3 1 1 ((l + 1 : Nat) : Int)) 2 = f6 := a4
    have F10 := FE_wF (v := ((l + 1 : Nat) : Int)) F5 (show fdF 1 1 from ⟨rfl, rfl⟩)
    have eh8 : hF (hwF h3 1 1 ((l + 1 : Nat) : Int)) 1 1 = ((l + 1 : Nat) : Int) := hF_self
    generalize hwF h3 1 1 ((l + 1 : Nat) : Int) = h8 at a9 F10 eh8 ⊢
    clear a4 F5 eh3
    refine av_wp_seq 5 (pc' := 8) (lv' := [some (.inr (.inr (.inl (some (1))))), some (.inl x), some (.inl (16))]) (st' := [.inr (.inr (.inl (some (1))))]) (h' := h8) rfl ?_
    refine wq_gi (p' := 11) rfl rfl (congrArg Prod.fst (ly_k (FE_ly F10 L) 1 rfl)) rfl (eh8) ?_
    refine av_wp_seq 1 (pc' := 14) (lv' := [some (.inr (.inr (.inl (some (1))))), some (.inl x), some (.inl (16))]) (st' := [.inl (900), .inl ((l + 1 : Nat) : Int)]) (h' := h8) rfl ?_
    refine wq_k2 (p' := 17) rfl rfl ⟨by omega, by omega⟩ ⟨by omega, by omega⟩ (fun c11 => ?_) (fun c12 => ?_)
    · have c11 : (900) ≤ ((l + 1 : Nat) : Int) := c11
      refine av_wp_ret (v := none) rfl rfl rfl ?_
      exfalso; omega
    · have c12 : ((l + 1 : Nat) : Int) < (900) := c12
      refine av_wp_seq 1 (pc' := 18) (lv' := [some (.inr (.inr (.inl (some (1))))), some (.inl x), some (.inl (16))]) (st' := [.inr (.inr (.inl (some (1))))]) (h' := h8) rfl ?_
      refine wq_gr (p' := 21) rfl rfl (congrArg Prod.fst (ly_k (FE_ly F10 L) 1 rfl)) rfl (ly_g (FE_ly F10 L) 1 0 2 rfl) ?_
      refine av_wp_seq 1 (pc' := 22) (lv' := [some (.inr (.inr (.inl (some (1))))), some (.inl x), some (.inl (16))]) (st' := [.inr (.inr (.inl (some (1)))), .inr (.inr (.inl (some (2))))]) (h' := h8) rfl ?_
      refine wq_gi (p' := 25) rfl rfl (congrArg Prod.fst (ly_k (FE_ly F10 L) 1 rfl)) rfl (eh8) ?_
      refine av_wp_seq 4 (pc' := 29) (lv' := [some (.inr (.inr (.inl (some (1))))), some (.inl x), some (.inl (16))]) (st' := [.inl (av_b (av_shr x (16))), .inl ((l + 1 : Nat) : Int), .inr (.inr (.inl (some (2))))]) (h' := h8) rfl ?_
      refine wq_bs (p' := 30) (n := 900) rfl rfl (ly_k (FE_ly F10 L) 2 rfl) (by omega) ?_
      obtain ⟨f16, q17⟩ : ∃ f, f = av_u1 f6 (l + 1) (bt x 16) := ⟨_, rfl⟩
      have a14 : hA (hwA h8 2 (Int.toNat (((l + 1 : Nat) : Int))) (av_b (av_b (av_shr x (16))))) 2 = f16 := by rw [hA_wu, a9, show Int.toNat (((l + 1 : Nat) : Int)) = l + 1 by omega, q17]; rfl
      have F15 := FE_wA (eF := fdF) (j := Int.toNat (((l + 1 : Nat) : Int))) (v := av_b (av_b (av_shr x (16)))) F10 (show fdA 2 from rfl)
      have eh13 : hF (hwA h8 2 (Int.toNat (((l + 1 : Nat) : Int))) (av_b (av_b (av_shr x (16))))) 1 1 = ((l + 1 : Nat) : Int) := eh8
      generalize hwA h8 2 (Int.toNat (((l + 1 : Nat) : Int))) (av_b (av_b (av_shr x (16)))) = h13 at a14 F15 eh13 ⊢
      clear a9 F10 eh8
      refine av_wp_seq 2 (pc' := 32) (lv' := [some (.inr (.inr (.inl (some (1))))), some (.inl x), some (.inl (16))]) (st' := [.inr (.inr (.inl (some (1)))), .inr (.inr (.inl (some (1))))]) (h' := h13) rfl ?_
      refine wq_gi (p' := 35) rfl rfl (congrArg Prod.fst (ly_k (FE_ly F15 L) 1 rfl)) rfl (eh13) ?_
      refine av_wp_seq 2 (pc' := 37) (lv' := [some (.inr (.inr (.inl (some (1))))), some (.inl x), some (.inl (16))]) (st' := [.inl (((l + 1 : Nat) : Int) + (1)), .inr (.inr (.inl (some (1))))]) (h' := h13) rfl ?_
      refine wq_pi (p' := 40) rfl rfl (congrArg Prod.fst (ly_k (FE_ly F15 L) 1 rfl)) rfl ?_
      rw [show (((l + 1 : Nat) : Int) + (1)) = ((l + 2 : Nat) : Int) by omega]
      have a19 : hA (hwF h13 1 1 ((l + 2 : Nat) : Int)) 2 = f16 := a14
      have F20 := FE_wF (v := ((l + 2 : Nat) : Int)) F15 (show fdF 1 1 from ⟨rfl, rfl⟩)
      have eh18 : hF (hwF h13 1 1 ((l + 2 : Nat) : Int)) 1 1 = ((l + 2 : Nat) : Int) := hF_self
      generalize hwF h13 1 1 ((l + 2 : Nat) : Int) = h18 at a19 F20 eh18 ⊢
      clear a14 F15 eh13
      refine av_wp_seq 5 (pc' := 8) (lv' := [some (.inr (.inr (.inl (some (1))))), some (.inl x), some (.inl (8))]) (st' := [.inr (.inr (.inl (some (1))))]) (h' := h18) rfl ?_
      refine wq_gi (p' := 11) rfl rfl (congrArg Prod.fst (ly_k (FE_ly F20 L) 1 rfl)) rfl (eh18) ?_
      refine av_wp_seq 1 (pc' := 14) (lv' := [some (.inr (.inr (.inl (some (1))))), some (.inl x), some (.inl (8))]) (st' := [.inl (900), .inl ((l + 2 : Nat) : Int)]) (h' := h18) rfl ?_
      refine wq_k2 (p' := 17) rfl rfl ⟨by omega, by omega⟩ ⟨by omega, by omega⟩ (fun c21 => ?_) (fun c22 => ?_)
      · have c21 : (900) ≤ ((l + 2 : Nat) : Int) := c21
        refine av_wp_ret (v := none) rfl rfl rfl ?_
        exfalso; omega
      · have c22 : ((l + 2 : Nat) : Int) < (900) := c22
        refine av_wp_seq 1 (pc' := 18) (lv' := [some (.inr (.inr (.inl (some (1))))), some (.inl x), some (.inl (8))]) (st' := [.inr (.inr (.inl (some (1))))]) (h' := h18) rfl ?_
        refine wq_gr (p' := 21) rfl rfl (congrArg Prod.fst (ly_k (FE_ly F20 L) 1 rfl)) rfl (ly_g (FE_ly F20 L) 1 0 2 rfl) ?_
        refine av_wp_seq 1 (pc' := 22) (lv' := [some (.inr (.inr (.inl (some (1))))), some (.inl x), some (.inl (8))]) (st' := [.inr (.inr (.inl (some (1)))), .inr (.inr (.inl (some (2))))]) (h' := h18) rfl ?_
        refine wq_gi (p' := 25) rfl rfl (congrArg Prod.fst (ly_k (FE_ly F20 L) 1 rfl)) rfl (eh18) ?_
        refine av_wp_seq 4 (pc' := 29) (lv' := [some (.inr (.inr (.inl (some (1))))), some (.inl x), some (.inl (8))]) (st' := [.inl (av_b (av_shr x (8))), .inl ((l + 2 : Nat) : Int), .inr (.inr (.inl (some (2))))]) (h' := h18) rfl ?_
        refine wq_bs (p' := 30) (n := 900) rfl rfl (ly_k (FE_ly F20 L) 2 rfl) (by omega) ?_
        obtain ⟨f26, q27⟩ : ∃ f, f = av_u1 f16 (l + 2) (bt x 8) := ⟨_, rfl⟩
        have a24 : hA (hwA h18 2 (Int.toNat (((l + 2 : Nat) : Int))) (av_b (av_b (av_shr x (8))))) 2 = f26 := by rw [hA_wu, a19, show Int.toNat (((l + 2 : Nat) : Int)) = l + 2 by omega, q27]; rfl
        have F25 := FE_wA (eF := fdF) (j := Int.toNat (((l + 2 : Nat) : Int))) (v := av_b (av_b (av_shr x (8)))) F20 (show fdA 2 from rfl)
        have eh23 : hF (hwA h18 2 (Int.toNat (((l + 2 : Nat) : Int))) (av_b (av_b (av_shr x (8))))) 1 1 = ((l + 2 : Nat) : Int) := eh18
        generalize hwA h18 2 (Int.toNat (((l + 2 : Nat) : Int))) (av_b (av_b (av_shr x (8)))) = h23 at a24 F25 eh23 ⊢
        clear a19 F20 eh18
        refine av_wp_seq 2 (pc' := 32) (lv' := [some (.inr (.inr (.inl (some (1))))), some (.inl x), some (.inl (8))]) (st' := [.inr (.inr (.inl (some (1)))), .inr (.inr (.inl (some (1))))]) (h' := h23) rfl ?_
        refine wq_gi (p' := 35) rfl rfl (congrArg Prod.fst (ly_k (FE_ly F25 L) 1 rfl)) rfl (eh23) ?_
        refine av_wp_seq 2 (pc' := 37) (lv' := [some (.inr (.inr (.inl (some (1))))), some (.inl x), some (.inl (8))]) (st' := [.inl (((l + 2 : Nat) : Int) + (1)), .inr (.inr (.inl (some (1))))]) (h' := h23) rfl ?_
        refine wq_pi (p' := 40) rfl rfl (congrArg Prod.fst (ly_k (FE_ly F25 L) 1 rfl)) rfl ?_
        rw [show (((l + 2 : Nat) : Int) + (1)) = ((l + 3 : Nat) : Int) by omega]
        have a29 : hA (hwF h23 1 1 ((l + 3 : Nat) : Int)) 2 = f26 := a24
        have F30 := FE_wF (v := ((l + 3 : Nat) : Int)) F25 (show fdF 1 1 from ⟨rfl, rfl⟩)
        have eh28 : hF (hwF h23 1 1 ((l + 3 : Nat) : Int)) 1 1 = ((l + 3 : Nat) : Int) := hF_self
        generalize hwF h23 1 1 ((l + 3 : Nat) : Int) = h28 at a29 F30 eh28 ⊢
        clear a24 F25 eh23
        refine av_wp_seq 5 (pc' := 8) (lv' := [some (.inr (.inr (.inl (some (1))))), some (.inl x), some (.inl (0))]) (st' := [.inr (.inr (.inl (some (1))))]) (h' := h28) rfl ?_
        refine wq_gi (p' := 11) rfl rfl (congrArg Prod.fst (ly_k (FE_ly F30 L) 1 rfl)) rfl (eh28) ?_
        refine av_wp_seq 1 (pc' := 14) (lv' := [some (.inr (.inr (.inl (some (1))))), some (.inl x), some (.inl (0))]) (st' := [.inl (900), .inl ((l + 3 : Nat) : Int)]) (h' := h28) rfl ?_
        refine wq_k2 (p' := 17) rfl rfl ⟨by omega, by omega⟩ ⟨by omega, by omega⟩ (fun c31 => ?_) (fun c32 => ?_)
        · have c31 : (900) ≤ ((l + 3 : Nat) : Int) := c31
          refine av_wp_ret (v := none) rfl rfl rfl ?_
          exfalso; omega
        · have c32 : ((l + 3 : Nat) : Int) < (900) := c32
          refine av_wp_seq 1 (pc' := 18) (lv' := [some (.inr (.inr (.inl (some (1))))), some (.inl x), some (.inl (0))]) (st' := [.inr (.inr (.inl (some (1))))]) (h' := h28) rfl ?_
          refine wq_gr (p' := 21) rfl rfl (congrArg Prod.fst (ly_k (FE_ly F30 L) 1 rfl)) rfl (ly_g (FE_ly F30 L) 1 0 2 rfl) ?_
          refine av_wp_seq 1 (pc' := 22) (lv' := [some (.inr (.inr (.inl (some (1))))), some (.inl x), some (.inl (0))]) (st' := [.inr (.inr (.inl (some (1)))), .inr (.inr (.inl (some (2))))]) (h' := h28) rfl ?_
          refine wq_gi (p' := 25) rfl rfl (congrArg Prod.fst (ly_k (FE_ly F30 L) 1 rfl)) rfl (eh28) ?_
          refine av_wp_seq 4 (pc' := 29) (lv' := [some (.inr (.inr (.inl (some (1))))), some (.inl x), some (.inl (0))]) (st' := [.inl (av_b (av_shr x (0))), .inl ((l + 3 : Nat) : Int), .inr (.inr (.inl (some (2))))]) (h' := h28) rfl ?_
          refine wq_bs (p' := 30) (n := 900) rfl rfl (ly_k (FE_ly F30 L) 2 rfl) (by omega) ?_
          obtain ⟨f36, q37⟩ : ∃ f, f = av_u1 f26 (l + 3) (bt x 0) := ⟨_, rfl⟩
          have a34 : hA (hwA h28 2 (Int.toNat (((l + 3 : Nat) : Int))) (av_b (av_b (av_shr x (0))))) 2 = f36 := by rw [hA_wu, a29, show Int.toNat (((l + 3 : Nat) : Int)) = l + 3 by omega, q37]; rfl
          have F35 := FE_wA (eF := fdF) (j := Int.toNat (((l + 3 : Nat) : Int))) (v := av_b (av_b (av_shr x (0)))) F30 (show fdA 2 from rfl)
          have eh33 : hF (hwA h28 2 (Int.toNat (((l + 3 : Nat) : Int))) (av_b (av_b (av_shr x (0))))) 1 1 = ((l + 3 : Nat) : Int) := eh28
          generalize hwA h28 2 (Int.toNat (((l + 3 : Nat) : Int))) (av_b (av_b (av_shr x (0)))) = h33 at a34 F35 eh33 ⊢
          clear a29 F30 eh28
          have p38 : f36 = put4 (hA h 2) (l + 0) x := by rw [q37, q27, q17, q7]; rfl
          clear q37 q27 q17 q7
          refine av_wp_seq 2 (pc' := 32) (lv' := [some (.inr (.inr (.inl (some (1))))), some (.inl x), some (.inl (0))]) (st' := [.inr (.inr (.inl (some (1)))), .inr (.inr (.inl (some (1))))]) (h' := h33) rfl ?_
          refine wq_gi (p' := 35) rfl rfl (congrArg Prod.fst (ly_k (FE_ly F35 L) 1 rfl)) rfl (eh33) ?_
          refine av_wp_seq 2 (pc' := 37) (lv' := [some (.inr (.inr (.inl (some (1))))), some (.inl x), some (.inl (0))]) (st' := [.inl (((l + 3 : Nat) : Int) + (1)), .inr (.inr (.inl (some (1))))]) (h' := h33) rfl ?_
          refine wq_pi (p' := 40) rfl rfl (congrArg Prod.fst (ly_k (FE_ly F35 L) 1 rfl)) rfl ?_
          rw [show (((l + 3 : Nat) : Int) + (1)) = ((l + 4 : Nat) : Int) by omega]
          have a40 : hA (hwF h33 1 1 ((l + 4 : Nat) : Int)) 2 = f36 := a34
          have F41 := FE_wF (v := ((l + 4 : Nat) : Int)) F35 (show fdF 1 1 from ⟨rfl, rfl⟩)
          have eh39 : hF (hwF h33 1 1 ((l + 4 : Nat) : Int)) 1 1 = ((l + 4 : Nat) : Int) := hF_self
          generalize hwF h33 1 1 ((l + 4 : Nat) : Int) = h39 at a40 F41 eh39 ⊢
          clear a34 F35 eh33
          refine av_wp_seq 4 (pc' := 46) (lv' := [some (.inr (.inr (.inl (some (1))))), some (.inl x), some (.inl (-8))]) (st' := []) (h' := h39) rfl ?_
          refine av_wp_ret (v := none) rfl rfl rfl ?_
          exact hq h39 F41 (by rw [a40]; exact p38) eh39

set_option maxRecDepth 100000 in
set_option maxHeartbeats 4000000 in
theorem ct_94 {h : av_H} (L : LY h) {l : Nat} (hl : hF h 1 1 = (l : Int)) (h900 : l ≤ 900) (a b c d e : Int) {Q : Option av_V → av_H → Prop} (hqA : 880 < l → Q (some (.inl (-1))) h) (hq : l ≤ 880 → ∀ h', FE fdA fdF h h' → hA h' 2 = fd5 (hA h 2) l a b c d e → hF h' 1 1 = (l : Int) + 20 → Q (some (.inl ((l : Int) + 20))) h') : av_wp none cd_94 0 [some (.inr (.inr (.inl (some (0))))), some (.inl a), some (.inl b), some (.inl c), some (.inl d), some (.inl e)] [] h Q := by
  refine av_wp_seq 1 (pc' := 1) (lv' := [some (.inr (.inr (.inl (some (0))))), some (.inl a), some (.inl b), some (.inl c), some (.inl d), some (.inl e)]) (st' := [.inr (.inr (.inl (some (0))))]) (h' := h) rfl ?_
  refine wq_gr (p' := 4) rfl rfl (congrArg Prod.fst (ly_k L 0 rfl)) rfl (ly_g L 0 0 1 rfl) ?_
  refine wq_gi (p' := 7) rfl rfl (congrArg Prod.fst (ly_k L 1 rfl)) rfl (hl) ?_
  refine av_wp_seq 3 (pc' := 13) (lv' := [some (.inr (.inr (.inl (some (0))))), some (.inl a), some (.inl b), some (.inl c), some (.inl d), some (.inl e)]) (st' := [.inl (900), .inl ((l : Int) + (20))]) (h' := h) rfl ?_
  refine wq_k2 (p' := 16) rfl rfl ⟨by omega, by omega⟩ ⟨by omega, by omega⟩ (fun c1 => ?_) (fun c2 => ?_)
  · have c1 : ((l : Int) + (20)) ≤ (900) := c1
    refine av_wp_seq 1 (pc' := 19) (lv' := [some (.inr (.inr (.inl (some (0))))), some (.inl a), some (.inl b), some (.inl c), some (.inl d), some (.inl e)]) (st' := [.inr (.inr (.inl (some (0))))]) (h' := h) rfl ?_
    refine wq_gr (p' := 22) rfl rfl (congrArg Prod.fst (ly_k L 0 rfl)) rfl (ly_g L 0 0 1 rfl) ?_
    refine av_wp_seq 1 (pc' := 23) (lv' := [some (.inr (.inr (.inl (some (0))))), some (.inl a), some (.inl b), some (.inl c), some (.inl d), some (.inl e)]) (st' := [.inl a, .inr (.inr (.inl (some (1))))]) (h' := h) rfl ?_
    refine wq_cv (p' := 26) (av_qc (.invokevirtual 71) 79 1 0 6) 3 cd_79 [.inl a] (1) 6 [some (.inr (.inr (.inl (some (1))))), some (.inl a), none] rfl rfl rfl pp_79 rfl rfl rfl (congrArg Prod.fst (ly_k L 1 rfl)) rfl rfl rfl rfl ?_
    refine ct_79 L (l := l + 0) (hl) (by omega) a (fun h3 F4 a5 e6 => ?_)
    have F7 := FE_tr (FE_rf h) F4
    have a8 := a5
    show av_wp _ cd_94 26 [some (.inr (.inr (.inl (some (0))))), some (.inl a), some (.inl b), some (.inl c), some (.inl d), some (.inl e)] [] h3 _
    refine av_wp_seq 1 (pc' := 27) (lv' := [some (.inr (.inr (.inl (some (0))))), some (.inl a), some (.inl b), some (.inl c), some (.inl d), some (.inl e)]) (st' := [.inr (.inr (.inl (some (0))))]) (h' := h3) rfl ?_
    refine wq_gr (p' := 30) rfl rfl (congrArg Prod.fst (ly_k (FE_ly F7 L) 0 rfl)) rfl (ly_g (FE_ly F7 L) 0 0 1 rfl) ?_
    refine av_wp_seq 1 (pc' := 31) (lv' := [some (.inr (.inr (.inl (some (0))))), some (.inl a), some (.inl b), some (.inl c), some (.inl d), some (.inl e)]) (st' := [.inl b, .inr (.inr (.inl (some (1))))]) (h' := h3) rfl ?_
    refine wq_cv (p' := 34) (av_qc (.invokevirtual 71) 79 1 0 6) 3 cd_79 [.inl b] (1) 6 [some (.inr (.inr (.inl (some (1))))), some (.inl b), none] rfl rfl rfl pp_79 rfl rfl rfl (congrArg Prod.fst (ly_k (FE_ly F7 L) 1 rfl)) rfl rfl rfl rfl ?_
    refine ct_79 (FE_ly F7 L) (l := l + 4) ((show hF h3 1 1 = ((l + 4 : Nat) : Int) from e6)) (by omega) b (fun h9 F10 a11 e12 => ?_)
    have F13 := FE_tr F7 F10
    have a14 : hA h9 2 = put4 (put4 (hA h 2) (l + 0) a) (l + 4) b := by rw [a11, a8]
    show av_wp _ cd_94 34 [some (.inr (.inr (.inl (some (0))))), some (.inl a), some (.inl b), some (.inl c), some (.inl d), some (.inl e)] [] h9 _
    refine av_wp_seq 1 (pc' := 35) (lv' := [some (.inr (.inr (.inl (some (0))))), some (.inl a), some (.inl b), some (.inl c), some (.inl d), some (.inl e)]) (st' := [.inr (.inr (.inl (some (0))))]) (h' := h9) rfl ?_
    refine wq_gr (p' := 38) rfl rfl (congrArg Prod.fst (ly_k (FE_ly F13 L) 0 rfl)) rfl (ly_g (FE_ly F13 L) 0 0 1 rfl) ?_
    refine av_wp_seq 1 (pc' := 39) (lv' := [some (.inr (.inr (.inl (some (0))))), some (.inl a), some (.inl b), some (.inl c), some (.inl d), some (.inl e)]) (st' := [.inl c, .inr (.inr (.inl (some (1))))]) (h' := h9) rfl ?_
    refine wq_cv (p' := 42) (av_qc (.invokevirtual 71) 79 1 0 6) 3 cd_79 [.inl c] (1) 6 [some (.inr (.inr (.inl (some (1))))), some (.inl c), none] rfl rfl rfl pp_79 rfl rfl rfl (congrArg Prod.fst (ly_k (FE_ly F13 L) 1 rfl)) rfl rfl rfl rfl ?_
    refine ct_79 (FE_ly F13 L) (l := l + 8) ((show hF h9 1 1 = ((l + 8 : Nat) : Int) from e12)) (by omega) c (fun h15 F16 a17 e18 => ?_)
    have F19 := FE_tr F13 F16
    have a20 : hA h15 2 = put4 (put4 (put4 (hA h 2) (l + 0) a) (l + 4) b) (l + 8) c := by rw [a17, a14]
    show av_wp _ cd_94 42 [some (.inr (.inr (.inl (some (0))))), some (.inl a), some (.inl b), some (.inl c), some (.inl d), some (.inl e)] [] h15 _
    refine av_wp_seq 1 (pc' := 43) (lv' := [some (.inr (.inr (.inl (some (0))))), some (.inl a), some (.inl b), some (.inl c), some (.inl d), some (.inl e)]) (st' := [.inr (.inr (.inl (some (0))))]) (h' := h15) rfl ?_
    refine wq_gr (p' := 46) rfl rfl (congrArg Prod.fst (ly_k (FE_ly F19 L) 0 rfl)) rfl (ly_g (FE_ly F19 L) 0 0 1 rfl) ?_
    refine av_wp_seq 1 (pc' := 48) (lv' := [some (.inr (.inr (.inl (some (0))))), some (.inl a), some (.inl b), some (.inl c), some (.inl d), some (.inl e)]) (st' := [.inl d, .inr (.inr (.inl (some (1))))]) (h' := h15) rfl ?_
    refine wq_cv (p' := 51) (av_qc (.invokevirtual 71) 79 1 0 6) 3 cd_79 [.inl d] (1) 6 [some (.inr (.inr (.inl (some (1))))), some (.inl d), none] rfl rfl rfl pp_79 rfl rfl rfl (congrArg Prod.fst (ly_k (FE_ly F19 L) 1 rfl)) rfl rfl rfl rfl ?_
    refine ct_79 (FE_ly F19 L) (l := l + 12) ((show hF h15 1 1 = ((l + 12 : Nat) : Int) from e18)) (by omega) d (fun h21 F22 a23 e24 => ?_)
    have F25 := FE_tr F19 F22
    have a26 : hA h21 2 = put4 (put4 (put4 (put4 (hA h 2) (l + 0) a) (l + 4) b) (l + 8) c) (l + 12) d := by rw [a23, a20]
    show av_wp _ cd_94 51 [some (.inr (.inr (.inl (some (0))))), some (.inl a), some (.inl b), some (.inl c), some (.inl d), some (.inl e)] [] h21 _
    refine av_wp_seq 1 (pc' := 52) (lv' := [some (.inr (.inr (.inl (some (0))))), some (.inl a), some (.inl b), some (.inl c), some (.inl d), some (.inl e)]) (st' := [.inr (.inr (.inl (some (0))))]) (h' := h21) rfl ?_
    refine wq_gr (p' := 55) rfl rfl (congrArg Prod.fst (ly_k (FE_ly F25 L) 0 rfl)) rfl (ly_g (FE_ly F25 L) 0 0 1 rfl) ?_
    refine av_wp_seq 1 (pc' := 57) (lv' := [some (.inr (.inr (.inl (some (0))))), some (.inl a), some (.inl b), some (.inl c), some (.inl d), some (.inl e)]) (st' := [.inl e, .inr (.inr (.inl (some (1))))]) (h' := h21) rfl ?_
    refine wq_cv (p' := 60) (av_qc (.invokevirtual 71) 79 1 0 6) 3 cd_79 [.inl e] (1) 6 [some (.inr (.inr (.inl (some (1))))), some (.inl e), none] rfl rfl rfl pp_79 rfl rfl rfl (congrArg Prod.fst (ly_k (FE_ly F25 L) 1 rfl)) rfl rfl rfl rfl ?_
    refine ct_79 (FE_ly F25 L) (l := l + 16) ((show hF h21 1 1 = ((l + 16 : Nat) : Int) from e24)) (by omega) e (fun h27 F28 a29 e30 => ?_)
    have F31 := FE_tr F25 F28
    have a32 : hA h27 2 = put4 (put4 (put4 (put4 (put4 (hA h 2) (l + 0) a) (l + 4) b) (l + 8) c) (l + 12) d) (l + 16) e := by rw [a29, a26]
    show av_wp _ cd_94 60 [some (.inr (.inr (.inl (some (0))))), some (.inl a), some (.inl b), some (.inl c), some (.inl d), some (.inl e)] [] h27 _
    refine av_wp_seq 1 (pc' := 61) (lv' := [some (.inr (.inr (.inl (some (0))))), some (.inl a), some (.inl b), some (.inl c), some (.inl d), some (.inl e)]) (st' := [.inr (.inr (.inl (some (0))))]) (h' := h27) rfl ?_
    refine wq_gr (p' := 64) rfl rfl (congrArg Prod.fst (ly_k (FE_ly F31 L) 0 rfl)) rfl (ly_g (FE_ly F31 L) 0 0 1 rfl) ?_
    refine wq_gi (p' := 67) rfl rfl (congrArg Prod.fst (ly_k (FE_ly F31 L) 1 rfl)) rfl ((show hF h27 1 1 = ((l + 20 : Nat) : Int) from e30)) ?_
    refine av_wp_ret (v := some (.inl ((l + 20 : Nat) : Int))) rfl rfl rfl ?_
    rw [show ((l + 20 : Nat) : Int) = (l : Int) + 20 by omega]
    exact hq (by omega) h27 F31 a32 ((show hF h27 1 1 = ((l + 20 : Nat) : Int) from e30).trans (by omega))
  · have c2 : (900) < ((l : Int) + (20)) := c2
    refine av_wp_seq 1 (pc' := 17) (lv' := [some (.inr (.inr (.inl (some (0))))), some (.inl a), some (.inl b), some (.inl c), some (.inl d), some (.inl e)]) (st' := [.inl (-1)]) (h' := h) rfl ?_
    refine av_wp_ret (v := some (.inl (-1))) rfl rfl rfl ?_
    exact hqA (by omega)

def mfA (a : Nat) : Prop := a = 94
def mfF (o f : Nat) : Prop := o = 77 ∧ f = 17

