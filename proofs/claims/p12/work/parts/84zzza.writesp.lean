/-! WRITE: clauses behind a law -/
def mxf (R : Nat → Nat → Int) (b : Nat → Int) (x : Int) : Nat → Nat → Int
  | 0 => b
  | c + 1 => if av_w (av_and (av_shr x (c : Int)) 1) = 1 then lov (mxf R b x c) (R c) 14 else mxf R b x c
theorem mxf_y {R : Nat → Nat → Int} {b : Nat → Int} {x : Int} {c : Nat} (h : av_w (av_and (av_shr x (c : Int)) 1) = 1) : mxf R b x (c + 1) = lov (mxf R b x c) (R c) 14 := if_pos h
theorem mxf_n {R : Nat → Nat → Int} {b : Nat → Int} {x : Int} {c : Nat} (h : ¬ av_w (av_and (av_shr x (c : Int)) 1) = 1) : mxf R b x (c + 1) = mxf R b x c := if_neg h
theorem lov_bd {f d : Nat → Int} {n : Nat} (hf : ∀ j, -2 ≤ f j ∧ f j ≤ 999) (hd : ∀ j, -2 ≤ d j ∧ d j ≤ 999) (j : Nat) : -2 ≤ lov f d n j ∧ lov f d n j ≤ 999 := by
  unfold lov
  split
  · exact hd j
  · exact hf j
theorem mxf_bd {R : Nat → Nat → Int} {b : Nat → Int} {x : Int} (hb : ∀ j, -2 ≤ b j ∧ b j ≤ 999) : ∀ c : Nat, (∀ q, q < c → ∀ j, -2 ≤ R q j ∧ R q j ≤ 999) → ∀ j, -2 ≤ mxf R b x c j ∧ mxf R b x c j ≤ 999 := by
  intro c
  induction c with
  | zero => intro _ j; exact hb j
  | succ c ih =>
    intro hR j
    have i := ih (fun q hq => hR q (by omega))
    by_cases e : av_w (av_and (av_shr x (c : Int)) 1) = 1
    · rw [mxf_y e]
      exact lov_bd i (hR c (by omega)) j
    · rw [mxf_n e]
      exact i j
/-- class and reference lay the same -/
theorem mxf_lyf {R : Nat → Nat → Int} {b A : Nat → Int} {l x : Int} : ∀ c : Nat, (∀ j, j < 13 → b j = lyb A l j) → (∀ q, q < c → ∀ j : Nat, j < 13 → R q j = A (112 + 14 * (q : Int) + j).toNat) → ∀ j, j < 13 → mxf R b x c j = lyf A l x c j := by
  intro c
  induction c with
  | zero => intro hb _ j hj; exact hb j hj
  | succ c ih =>
    intro hb hR j hj
    have i := ih hb (fun q hq => hR q (by omega)) j hj
    have r := hR c (by omega) j hj
    have z : lyf A l x (c + 1) j = if av_w (av_and (av_shr x (c : Int)) 1) = 1 ∧ A (112 + 14 * (c : Int) + j).toNat ≠ -2 then A (112 + 14 * (c : Int) + j).toNat else lyf A l x c j := rfl
    rw [z]
    by_cases e : av_w (av_and (av_shr x (c : Int)) 1) = 1
    · rw [mxf_y e]
      show (if j < 14 ∧ R c j ≠ -2 then R c j else mxf R b x c j) = _
      rw [i, r]
      by_cases d : A (112 + 14 * (c : Int) + j).toNat = -2
      · rw [if_neg (fun y => y.2 d), if_neg (fun y => y.2 d)]
      · rw [if_pos ⟨by omega, d⟩, if_pos ⟨e, d⟩]
    · rw [mxf_n e, if_neg (fun y => e y.1), i]
theorem IC_30 {h : av_H} {f : Nat → Int} (I : IC h) (hf : ∀ j, -2 ≤ f j ∧ f j ≤ 999) : IC (hrw h 30 f) ∧ Fr1 h (hrw h 30 f) := by
  refine IC_A (A := av_u1 h.2.2.2.1 30 f) I (fun a ha => ?_) (fun a ha j => ?_)
  · have hne : a ≠ 30 := fun z => by rw [z] at ha; cases ha
    exact if_neg hne
  · by_cases c : a = 30
    · rw [c, show av_u1 h.2.2.2.1 30 f 30 = f from if_pos rfl]
      exact hf j
    · rw [show av_u1 h.2.2.2.1 30 f a = h.2.2.2.1 a from if_neg c]
      exact I.2.1 a ha j
/-- the class lays a law and clauses behind it -/
theorem cx_75 {h : av_H} (I : IC h) (l : Int) (ql : 0 ≤ l ∧ l < hF h 3 4) (x : Int) {Q : Option av_V → av_H → Prop} (hq : ∀ h', h' = hrw h 30 (mxf (fun c => hA h (15 + c)) (plr (hA h 30) (hA h (6 + Int.toNat l))) x (Int.toNat (hF h 3 5))) → Q none h') : av_wp none cd_75 0 [some (.inr (.inr (.inl (some (3))))), some (.inr (.inr (.inl (some (30))))), some (.inl l), some (.inl x), none] [] h Q := by
  have l8 := ic_lc I
  have k6 := ic_kc I
  have u5 : (Int.toNat (l)) < 8 := by omega
  have bb : ∀ j, -2 ≤ plr (hA h 30) (hA h (6 + Int.toNat l)) j ∧ plr (hA h 30) (hA h (6 + Int.toNat l)) j ≤ 999 := plr_bd (I.2.1 30 rfl) (I.2.1 _ (rwc_l u5))
  have bc : ∀ q, q < 6 → ∀ j, -2 ≤ hA h (15 + q) j ∧ hA h (15 + q) j ≤ 999 := fun q hq => I.2.1 _ (rwc_q hq)
  refine av_wp_seq 2 (pc' := 2) (lv' := [some (.inr (.inr (.inl (some (3))))), some (.inr (.inr (.inl (some (30))))), some (.inl l), some (.inl x), none]) (st' := [.inl l, .inr (.inr (.inl (some (3))))]) (h' := h) rfl ?_
  refine wq_cv (p' := 5) (av_qc (.invokevirtual 49) 70 1 0 5) 2 cd_70 [.inl l] (3) 5 [some (.inr (.inr (.inl (some (3))))), some (.inl l)] rfl rfl rfl pp_70 rfl rfl rfl (congrArg Prod.fst (ly_k I.1 3 rfl)) rfl rfl rfl rfl ?_
  refine cx_70 I (l) (by omega) (fun v1 p2 => ?_)
  show av_wp _ cd_75 5 [some (.inr (.inr (.inl (some (3))))), some (.inr (.inr (.inl (some (30))))), some (.inl l), some (.inl x), none] [.inl v1] h _
  refine wq_k1 (p' := 8) rfl rfl ⟨by omega, by omega⟩ (fun c3 => ?_) (fun c4 => ?_)
  · refine av_wp_seq 1 (pc' := 10) (lv' := [some (.inr (.inr (.inl (some (3))))), some (.inr (.inr (.inl (some (30))))), some (.inl l), some (.inl x), none]) (st' := [.inr (.inr (.inl (some (3))))]) (h' := h) rfl ?_
    refine wq_gr (p' := 13) rfl rfl (congrArg Prod.fst (ly_k I.1 3 rfl)) rfl (ly_g I.1 3 1 5 rfl) ?_
    refine av_wp_seq 1 (pc' := 14) (lv' := [some (.inr (.inr (.inl (some (3))))), some (.inr (.inr (.inl (some (30))))), some (.inl l), some (.inl x), none]) (st' := [.inl l, .inr (.inr (.inl (some (5))))]) (h' := h) rfl ?_
    refine wq_ar (p' := 15) (n := 8) (k := 32) rfl rfl (ly_k I.1 5 rfl) (by omega) (by omega) (I.1.2.2.1 _ u5) ?_
    refine av_wp_seq 4 (pc' := 20) (lv' := [some (.inr (.inr (.inl (some (3))))), some (.inr (.inr (.inl (some (30))))), some (.inl l), some (.inl x), none]) (st' := [.inl (14), .inl (0), .inr (.inr (.inl (some (30)))), .inl (0), .inr (.inr (.inl (some (6 + (Int.toNat (l))))))]) (h' := h) rfl ?_
    refine wq_ac (p' := 23) rfl rfl rfl (fun _ _ => rfl) rfl (ly_k I.1 30 rfl) (ly_l I.1 u5) (by omega) (by omega) (by omega) (by omega) ?_
    rw [show hcp h 30 (0 : Int).toNat (0 : Int).toNat (14 : Int).toNat (hA h (6 + Int.toNat l)) = hrw h 30 (plr (hA h 30) (hA h (6 + Int.toNat l))) from hcp_rw]
    refine av_wp_seq 2 (pc' := 26) (lv' := [some (.inr (.inr (.inl (some (3))))), some (.inr (.inr (.inl (some (30))))), some (.inl l), some (.inl x), some (.inl (0))]) (st' := []) (h' := hrw h 30 (plr (hA h 30) (hA h (6 + Int.toNat l)))) rfl ?_
    obtain ⟨B, eB⟩ : ∃ B, plr (hA h 30) (hA h (6 + Int.toNat l)) = B := ⟨_, rfl⟩
    rw [eB] at hq bb ⊢
    have lp : ∀ (m k : Nat), (k : Int) + (m : Int) = hF h 3 5 → av_wp none cd_75 26 [some (.inr (.inr (.inl (some (3))))), some (.inr (.inr (.inl (some (30))))), some (.inl l), some (.inl x), some (.inl (k : Int))] [] (hrw h 30 (mxf (fun c => hA h (15 + c)) B x k)) Q := by
      intro m
      induction m with
      | zero =>
        intro k hk
        have J := (IC_30 (f := mxf (fun c => hA h (15 + c)) B x k) I (mxf_bd bb k (fun q hq => bc q (by omega)))).1
        refine av_wp_seq 2 (pc' := 29) (lv' := [some (.inr (.inr (.inl (some (3))))), some (.inr (.inr (.inl (some (30))))), some (.inl l), some (.inl x), some (.inl (k : Int))]) (st' := [.inr (.inr (.inl (some (3)))), .inl (k : Int)]) (h' := hrw h 30 (mxf (fun c => hA h (15 + c)) B x k)) rfl ?_
        refine wq_gi (p' := 32) rfl rfl (congrArg Prod.fst (ly_k J.1 3 rfl)) rfl (show hF (hrw h 30 _) 3 5 = hF h 3 5 from rfl) ?_
        refine wq_k2 (p' := 35) rfl rfl ⟨by omega, by omega⟩ ⟨by omega, by omega⟩ (fun c22 => ?_) (fun c23 => ?_)
        · refine av_wp_ret (v := none) rfl rfl rfl ?_
          rw [show k = Int.toNat (hF h 3 5) by omega]
          exact hq _ rfl
        · have c23 : (k : Int) < hF h 3 5 := c23
          exfalso
          omega
      | succ m ih =>
        intro k hk
        have u28 : k < 6 := by omega
        have J := (IC_30 (f := mxf (fun c => hA h (15 + c)) B x k) I (mxf_bd bb k (fun q hq => bc q (by omega)))).1
        have nx : ∀ f, f = mxf (fun c => hA h (15 + c)) B x (k + 1) → av_wp none cd_75 56 [some (.inr (.inr (.inl (some (3))))), some (.inr (.inr (.inl (some (30))))), some (.inl l), some (.inl x), some (.inl (k : Int))] [] (hrw h 30 f) Q := by
          intro f ef
          rw [ef]
          refine av_wp_seq 2 (pc' := 26) (lv' := [some (.inr (.inr (.inl (some (3))))), some (.inr (.inr (.inl (some (30))))), some (.inl l), some (.inl x), some (.inl ((k : Int) + 1))]) (st' := []) (h' := hrw h 30 (mxf (fun c => hA h (15 + c)) B x (k + 1))) rfl ?_
          have i := ih (k + 1) (by omega)
          rw [show ((k + 1 : Nat) : Int) = (k : Int) + 1 by omega] at i
          exact i
        refine av_wp_seq 2 (pc' := 29) (lv' := [some (.inr (.inr (.inl (some (3))))), some (.inr (.inr (.inl (some (30))))), some (.inl l), some (.inl x), some (.inl (k : Int))]) (st' := [.inr (.inr (.inl (some (3)))), .inl (k : Int)]) (h' := hrw h 30 (mxf (fun c => hA h (15 + c)) B x k)) rfl ?_
        refine wq_gi (p' := 32) rfl rfl (congrArg Prod.fst (ly_k J.1 3 rfl)) rfl (show hF (hrw h 30 _) 3 5 = hF h 3 5 from rfl) ?_
        refine wq_k2 (p' := 35) rfl rfl ⟨by omega, by omega⟩ ⟨by omega, by omega⟩ (fun c22 => ?_) (fun c23 => ?_)
        · have c22 : hF h 3 5 ≤ (k : Int) := c22
          exfalso
          omega
        · refine av_wp_seq 6 (pc' := 42) (lv' := [some (.inr (.inr (.inl (some (3))))), some (.inr (.inr (.inl (some (30))))), some (.inl l), some (.inl x), some (.inl (k : Int))]) (st' := [.inl (1), .inl (av_and (av_shr x (k : Int)) (1))]) (h' := hrw h 30 (mxf (fun c => hA h (15 + c)) B x k)) rfl ?_
          refine wq_w2 (p' := 45) rfl rfl (fun c60 => ?_) (fun c61 => ?_)
          · exact nx _ (mxf_n c60).symm
          · refine av_wp_seq 2 (pc' := 47) (lv' := [some (.inr (.inr (.inl (some (3))))), some (.inr (.inr (.inl (some (30))))), some (.inl l), some (.inl x), some (.inl (k : Int))]) (st' := [.inr (.inr (.inl (some (3)))), .inr (.inr (.inl (some (30))))]) (h' := hrw h 30 (mxf (fun c => hA h (15 + c)) B x k)) rfl ?_
            refine wq_gr (p' := 50) rfl rfl (congrArg Prod.fst (ly_k J.1 3 rfl)) rfl (ly_g J.1 3 2 14 rfl) ?_
            refine av_wp_seq 1 (pc' := 52) (lv' := [some (.inr (.inr (.inl (some (3))))), some (.inr (.inr (.inl (some (30))))), some (.inl l), some (.inl x), some (.inl (k : Int))]) (st' := [.inl (k : Int), .inr (.inr (.inl (some (14)))), .inr (.inr (.inl (some (30))))]) (h' := hrw h 30 (mxf (fun c => hA h (15 + c)) B x k)) rfl ?_
            refine wq_ar (p' := 53) (n := 6) (k := 32) rfl rfl (ly_k J.1 14 rfl) (by omega) (by omega) (J.1.2.2.2 _ u28) ?_
            refine wq_cs (p' := 56) (av_qc (.invokestatic 45) 74 2 2 5) 3 cd_74 [.inr (.inr (.inl (some (30)))), .inr (.inr (.inl (some (15 + k))))] [.inr (.inr (.inl (some (15 + k)))), .inr (.inr (.inl (some (30))))] [some (.inr (.inr (.inl (some (30))))), some (.inr (.inr (.inl (some (15 + k))))), none] rfl rfl rfl pp_74 (fun _ => rfl) rfl rfl ?_
            refine ct_74x (ly_k I.1 30 rfl) (ly_q I.1 u28) (by omega) (bc k u28) ?_
            exact nx _ (mxf_y c61).symm
    exact lp (Int.toNat (hF h 3 5)) 0 (by omega)
  · have c4 : v1 = (0) := c4
    exfalso
    omega
/-- how many bits -/
def pcn (x : Nat) : Nat := x % 2 + x / 2 % 2 + x / 4 % 2 + x / 8 % 2 + x / 16 % 2 + x / 32 % 2
def pcx (x : Int) : Nat → Int
  | 0 => 0
  | k + 1 => pcx x k + av_and (av_shr x (k : Int)) 1
theorem pcx_k : ∀ k : Nat, k < 64 → pcx (k : Int) 16 = (pcn k : Int) := by decide +kernel
theorem pcn_r : ∀ k : Nat, k < 64 → pcn k ≤ 6 := by decide +kernel
theorem pcn_c : ∀ c : Nat, c ≤ 6 → ∀ k : Nat, k < 2 ^ c → pcn k ≤ c := by decide +kernel
/-- the first of the fewest -/
theorem ptv_no {S : Nat → Nat} {Q : Nat → Prop} : ∀ i, (∀ j, j < i → ¬ Q j) → ptv S Q i = -1 := by
  intro i
  induction i with
  | zero => intro _; rfl
  | succ i ih => intro h; rw [ptv_n (S := S) (Q := Q) (i := i) (fun z => h i (by omega) z.2)]; exact ih (fun j hj => h j (by omega))
theorem ptv_is {S : Nat → Nat} {Q : Nat → Prop} {b : Nat} (qb : Q b) : ∀ i, b < i → (∀ j, j < i → Q j → S b < S j ∨ (S b = S j ∧ b ≤ j)) → ptv S Q i = (b : Int) := by
  intro i
  induction i with
  | zero => intro h; exact absurd h (Nat.not_lt_zero _)
  | succ i ih =>
    intro hb h
    by_cases c : b = i
    · subst c
      refine ptv_y ?_ qb
      have r := ptv_r (S := S) (Q := Q) b
      by_cases e : ptv S Q b = -1
      · exact Or.inl e
      · refine Or.inr ?_
        have w : ∀ k, ptv S Q k = -1 ∨ Q (ptv S Q k).toNat := by
          intro k
          induction k with
          | zero => exact Or.inl rfl
          | succ k ik =>
            by_cases d : (ptv S Q k = -1 ∨ S k < S (ptv S Q k).toNat) ∧ Q k
            · rw [ptv_y d.1 d.2]
              exact Or.inr d.2
            · rw [ptv_n d]
              exact ik
        have y := h (ptv S Q b).toNat (by omega) ((w b).resolve_left e)
        omega
    · have i1 := ih (by omega) (fun j hj => h j (by omega))
      have nn : ¬ ((ptv S Q i = -1 ∨ S i < S (ptv S Q i).toNat) ∧ Q i) := fun z => by
        have y := h i (by omega) z.2
        have z1 := z.1
        rw [i1, show ((b : Nat) : Int).toNat = b from rfl] at z1
        omega
      rw [ptv_n nn]
      exact i1
/-- rows that a look leaves -/
theorem Fr_15 {g h : av_H} (F : Fr g h) : ∀ c, c < 6 → hA h (15 + c) = hA g (15 + c) := fun c hc => F.2.2.2.2.2.2 _ (by
  have hh : ∀ l, l < 6 → sA (15 + l) = false := by decide
  exact hh c hc)
theorem Fr_35 {g h : av_H} (F : Fr g h) : hF h 3 5 = hF g 3 5 := F.2.2.2.2.2.1 3 5 rfl
theorem mxf_c {R R' : Nat → Nat → Int} {b : Nat → Int} {x : Int} : ∀ c : Nat, (∀ q, q < c → R q = R' q) → mxf R b x c = mxf R' b x c := by
  intro c
  induction c with
  | zero => intro _; rfl
  | succ c ih =>
    intro e
    have i := ih (fun q hq => e q (by omega))
    by_cases y : av_w (av_and (av_shr x (c : Int)) 1) = 1
    · rw [mxf_y y, mxf_y y, i, e c (by omega)]
    · rw [mxf_n y, mxf_n y, i]
theorem mxf_hi {R : Nat → Nat → Int} {b : Nat → Int} {x : Int} {j : Nat} (hj : 14 ≤ j) : ∀ c : Nat, mxf R b x c j = b j := by
  intro c
  induction c with
  | zero => rfl
  | succ c ih =>
    by_cases y : av_w (av_and (av_shr x (c : Int)) 1) = 1
    · rw [mxf_y y]
      show (if j < 14 ∧ R c j ≠ -2 then R c j else mxf R b x c j) = _
      rw [if_neg (by omega)]
      exact ih
    · rw [mxf_n y]
      exact ih
theorem plr_hi {f p : Nat → Int} {j : Nat} (hj : 14 ≤ j) : plr f p j = f j := if_neg (by omega)
theorem plr_c {f f' p : Nat → Int} (e : ∀ j, 14 ≤ j → f j = f' j) : plr f p = plr f' p := by
  funext j
  unfold plr
  split
  · rfl
  · exact e j (by omega)
/-- a law with the clauses of x behind it, as the class lays it -/
def MXL (g : av_H) (f30 : Nat → Int) (x : Int) (l : Nat) : Nat → Int := mxf (fun c => hA g (15 + c)) (plr f30 (hA g (6 + l))) x (Int.toNat (hF g 3 5))
section
variable {U : Nat → Nat → Int} {S : Nat → Nat} {n : Int} {sr nd f30 : Nat → Int} {g h h' : av_H} {x : Int} {l : Nat}
theorem MXL_c (F : Fr g h) (I : IC g) (e : ∀ j, 14 ≤ j → hA h 30 j = f30 j) (hl : l < 8) : mxf (fun c => hA h (15 + c)) (plr (hA h 30) (hA h (6 + l))) x (Int.toNat (hF h 3 5)) = MXL g f30 x l := by
  have k6 := ic_kc I
  unfold MXL
  rw [Fr_35 F, plr_c e, Fr_6 F l hl]
  exact mxf_c _ (fun q hq => Fr_15 F q (by omega))
theorem MXL_h (j : Nat) (hj : 14 ≤ j) : MXL g f30 x l j = f30 j := by
  unfold MXL
  rw [mxf_hi hj, plr_hi hj]
theorem CJ_30 {f : Nat → Int} (C : CJ U S n sr nd h) (hf : ∀ j, -2 ≤ f j ∧ f j ≤ 999) (e : h' = hrw h 30 f) : CJ U S n sr nd h' ∧ Fr1 h h' := by
  subst e
  obtain ⟨i, F⟩ := IC_30 C.1 hf
  exact ⟨⟨i, CSP_fr C.1.1 C.2.1 F.1, (hrw_o (by decide)).trans C.2.2.1, (hrw_o (by decide)).trans C.2.2.2⟩, F⟩
theorem CJ_fl (C : CJ U S n sr nd h) (e : h' = hfil h 27 128 144 0) : CJ U S n (hA h' 27) nd h' ∧ Fr1 h h' := by
  subst e
  obtain ⟨i, F⟩ := IC_fil (a := 27) (lo := 128) (hi := 144) (v := (0)) C.1 rfl (fun z => by cases z) (by omega)
  exact ⟨⟨i, CSP_fr C.1.1 C.2.1 F.1, rfl, (fil_o (by decide)).trans C.2.2.2⟩, F⟩
theorem SUA_hi {L : Int} {ro : Nat → Nat → Int} {sr' : Nat → Int} (X : SUA U S n L ro sr) (z : ∀ q, q < 128 → sr' q = sr q) : SUA U S n L ro sr' := fun k hk => ⟨fun h1 i hi => by rw [z _ (by omega)]; exact (X k hk).1 h1 i hi, fun h1 i hi => by rw [z _ (by omega)]; exact (X k hk).2 h1 i hi⟩
theorem SUA_fl {L : Int} {ro : Nat → Nat → Int} (X : SUA U S n L ro sr) (e27 : hA h 27 = sr) (e : h' = hfil h 27 128 144 0) : SUA U S n L ro (hA h' 27) := SUA_hi X (fun q hq => by rw [e, fil_s, if_neg (by omega), e27])
theorem SUI_fl {ro : Nat → Int} {m : Nat} (hm : m ≤ 16) (e : h' = hfil h 27 128 144 0) : SUI U S ro 128 m (hA h' 27) := fun i hi => Or.inl (by rw [e, fil_s, if_pos ⟨by show 128 ≤ 128 + i; omega, by show 128 + i < 144; omega⟩])
theorem SRE_cb {u ro bar : Nat → Int} {s : Nat} (h : cbv u s ≠ -1) : SRE u ro bar s ↔ ∀ y : Int, 0 ≤ y → y < cbv u s → (bgn u ro bar s y).2.2 ≠ 9999 := by
  have d := cbv_d u s
  have e : cbv u s = cbf u s ∧ cbf u s ≤ 1024 := by omega
  constructor
  · intro z y h0 h1
    exact z.2 y h0 (by omega)
  · intro z
    exact ⟨e.2, fun y h0 h1 => z y h0 (by omega)⟩
end
section
variable {sc : av_Sr} {cd : List (Nat × av_E)} {Q : Option av_V → av_H → Prop} {pc p' : Nat} {lv : av_L} {r' : List av_V} {h : av_H} {U : Nat → Nat → Int} {S : Nat → Nat} {n : Int} {sr nd : Nat → Int}
theorem xj_ph {idx f : Nat} {v : Int} (hx : cd.lookup pc = some (av_qf (.putfield idx) 3 f 0)) (hp : pc + 3 = p') (C : CJ U S n sr nd h) (hf : (f = 9 ∧ 0 ≤ v ∧ v ≤ 7) ∨ (f = 10 ∧ 0 ≤ v ∧ v ≤ 1023)) (hw : ∀ h', CJ U S n sr nd h' → Fr h h' → hA h' = hA h → av_wp sc cd p' lv r' h' Q) : av_wp sc cd pc lv (.inl v :: .inr (.inr (.inl (some 26))) :: r') h Q :=
  wq_pi hx hp (congrArg Prod.fst (ly_k C.1.1 26 rfl)) rfl (hw _ ⟨IC_wH C.1 hf, CSP_fr C.1.1 C.2.1 (Fr1_wF (Fr1_rf h) (by rcases hf with e | e <;> rw [e.1] <;> rfl)).1, C.2.2.1, C.2.2.2⟩ (Fr1_wF (Fr1_rf h) (by rcases hf with e | e <;> rw [e.1] <;> rfl)).1 rfl)
theorem cy_221 (C : CJ U S n sr nd h) {Q : Option av_V → av_H → Prop} (hq : ∀ h', h' = hfil h 27 128 144 0 → Q none h') : av_wp none cd_221 0 [some (.inr (.inr (.inl (some (27))))), some (.inl (128)), some (.inl (144)), some (.inl (0)), none] [] h Q :=
  ct_221 (n := 144) 128 144 rfl rfl (ly_k C.1.1 27 rfl) (by omega) (by omega) (by omega) (hq _ rfl)
end
