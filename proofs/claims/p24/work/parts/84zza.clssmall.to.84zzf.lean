section
/-! SMALL LOOKS KEEP THE CLASS'S OWN BOOK -/
set_option maxRecDepth 100000 in
set_option maxHeartbeats 4000000 in
theorem cy_103 {h : av_H} (I : IC h) (n : Int) (qn : -2147483648 ≤ n ∧ n ≤ 2147483647) (w : Int) (qw : -2147483648 ≤ w ∧ w ≤ 2147483647) {Q : Option av_V → av_H → Prop} (hq : ∀ v : Int, Q (some (.inl v)) h) : av_wp none cd_103 0 [some (.inr (.inr (.inl (some (0))))), some (.inl n), some (.inl w), none] [] h Q := by
  have F := Fr_rf h
  refine av_wp_sqF ck_103 1 (pc' := 1) (lv' := [some (.inr (.inr (.inl (some (0))))), some (.inl n), some (.inl w), none]) (st' := [.inr (.inr (.inl (some (0))))]) (h' := h) rfl ?_
  refine wq_gr (p' := 4) (ck_103 _ _ rfl) rfl (congrArg Prod.fst (ly_k I.1 0 rfl)) rfl (ly_g I.1 0 1 3 rfl) ?_
  refine av_wp_sqF ck_103 1 (pc' := 5) (lv' := [some (.inr (.inr (.inl (some (0))))), some (.inl n), some (.inl w), none]) (st' := [.inl n, .inr (.inr (.inl (some (3))))]) (h' := h) rfl ?_
  refine wq_cv (p' := 8) (av_qc (.invokevirtual 96) 69 1 0 5) 2 cd_69 [.inl n] (3) 5 [some (.inr (.inr (.inl (some (3))))), some (.inl n)] (ck_103 _ _ rfl) rfl rfl pp_69 rfl rfl rfl (congrArg Prod.fst (ly_k I.1 3 rfl)) rfl rfl rfl rfl ?_
  refine ct_69 I (n) (by omega) ?_ (fun t1 c2 s3 d4 o5 z6 z7 => ?_)
  · show av_wp _ cd_103 8 [some (.inr (.inr (.inl (some (0))))), some (.inl n), some (.inl w), none] [.inr (.inr (.inl none))] h _
    refine av_wp_sqF ck_103 4 (pc' := 15) (lv' := [some (.inr (.inr (.inl (some (0))))), some (.inl n), some (.inl w), some (.inr (.inr (.inl none)))]) (st' := [.inl (-2)]) (h' := h) rfl ?_
    refine av_wp_ret (v := some (.inl (-2))) (ck_103 _ _ rfl) rfl rfl ?_
    exact hq _
  · have g8 := co_s12 o5
    have g9 := co_cbr o5
    show av_wp _ cd_103 8 [some (.inr (.inr (.inl (some (0))))), some (.inl n), some (.inl w), none] [.inr (.inr (.inl (some (t1))))] h _
    refine av_wp_sqF ck_103 4 (pc' := 17) (lv' := [some (.inr (.inr (.inl (some (0))))), some (.inl n), some (.inl w), some (.inr (.inr (.inl (some (t1)))))]) (st' := [.inl w]) (h' := h) rfl ?_
    rcases (show w = 0 ∨ w = 1 ∨ w = 2 ∨ (w < 0 ∨ 2 < w) by omega) with e10 | e10 | e10 | e10
    · refine wq_tc (t := 44) (ck_103 _ _ rfl) e10 rfl ?_
      refine av_wp_sqF ck_103 1 (pc' := 45) (lv' := [some (.inr (.inr (.inl (some (0))))), some (.inl n), some (.inl w), some (.inr (.inr (.inl (some (t1)))))]) (st' := [.inr (.inr (.inl (some (t1))))]) (h' := h) rfl ?_
      refine wq_gi (p' := 48) (ck_103 _ _ rfl) rfl (congrArg Prod.fst (co_kt o5)) rfl (co_s o5) ?_
      refine av_wp_ret (v := some (.inl (s3 : Int))) (ck_103 _ _ rfl) rfl rfl ?_
      exact hq _
    · refine wq_tc (t := 49) (ck_103 _ _ rfl) e10 rfl ?_
      refine av_wp_sqF ck_103 1 (pc' := 50) (lv' := [some (.inr (.inr (.inl (some (0))))), some (.inl n), some (.inl w), some (.inr (.inr (.inl (some (t1)))))]) (st' := [.inr (.inr (.inl (some (t1))))]) (h' := h) rfl ?_
      obtain ⟨v11, e12⟩ : ∃ v, hF h t1 2 = v := ⟨_, rfl⟩
      refine wq_gi (p' := 53) (ck_103 _ _ rfl) rfl (congrArg Prod.fst (co_kt o5)) rfl (e12) ?_
      refine av_wp_ret (v := some (.inl v11)) (ck_103 _ _ rfl) rfl rfl ?_
      exact hq _
    · refine wq_tc (t := 54) (ck_103 _ _ rfl) e10 rfl ?_
      refine av_wp_sqF ck_103 1 (pc' := 55) (lv' := [some (.inr (.inr (.inl (some (0))))), some (.inl n), some (.inl w), some (.inr (.inr (.inl (some (t1)))))]) (st' := [.inr (.inr (.inl (some (t1))))]) (h' := h) rfl ?_
      refine wq_gi (p' := 58) (ck_103 _ _ rfl) rfl (congrArg Prod.fst (co_kt o5)) rfl (co_cb o5) ?_
      refine av_wp_ret (v := some (.inl d4)) (ck_103 _ _ rfl) rfl rfl ?_
      exact hq _
    · refine wq_td (t := 59) (ck_103 _ _ rfl) ⟨by omega, by omega⟩ e10 rfl ?_
      refine av_wp_sqF ck_103 1 (pc' := 61) (lv' := [some (.inr (.inr (.inl (some (0))))), some (.inl n), some (.inl w), some (.inr (.inr (.inl (some (t1)))))]) (st' := [.inl (-2)]) (h' := h) rfl ?_
      refine av_wp_ret (v := some (.inl (-2))) (ck_103 _ _ rfl) rfl rfl ?_
      exact hq _
theorem os_100 {h : av_H} (B : BK h) (C : CLS h)  : av_wp none cd_100 0 [some (.inr (.inr (.inl (some (0)))))] [] h (fun _ h1 => av_wp none cd_158 0 [some (.inr (.inr (.inl (some (77)))))] [] h1 (fun _ h2 => CLS h2)) := by
  refine gd_of (fun hg => ?_)
  obtain ⟨n, a, m, M⟩ := B.2.2.1
  have z := ct_158 M (FM_rf h)  (Q := fun _ h2 => CLS h2) (fun w n' a' m' h2 M2 F2 => CLS_FM hg F2 C)
  exact cx_100 B.1 z
theorem os_101 {h : av_H} (B : BK h) (C : CLS h) (x1 x2 x3 : Int) (q1 : -2147483648 ≤ x1 ∧ x1 ≤ 2147483647) (q2 : -2147483648 ≤ x2 ∧ x2 ≤ 2147483647) (q3 : -2147483648 ≤ x3 ∧ x3 ≤ 2147483647) : av_wp none cd_101 0 [some (.inr (.inr (.inl (some (0))))), some (.inl x1), some (.inl x2), some (.inl x3), none, none] [] h (fun _ h1 => av_wp none cd_161 0 [some (.inr (.inr (.inl (some (77))))), some (.inl x1), some (.inl x2), some (.inl x3), none] [] h1 (fun _ h2 => CLS h2)) := by
  refine gd_of (fun hg => ?_)
  obtain ⟨n, a, m, M⟩ := B.2.2.1
  have z := ct_161 M (FM_rf h) x1 q1 x2 q2 x3 q3 (Q := fun _ h2 => CLS h2) (fun w n' a' m' h2 M2 F2 => CLS_FM hg F2 C)
  exact cx_101 B.1 B.2.2.2.2.1 x1 q1 x2 q2 x3 q3 (fun _ => z) (fun _ _ _ _ _ _ _ _ _ _ _ _ _ => z)
theorem os_105 {h : av_H} (B : BK h) (C : CLS h) (x1 x2 : Int) (q1 : -2147483648 ≤ x1 ∧ x1 ≤ 2147483647) (q2 : -2147483648 ≤ x2 ∧ x2 ≤ 2147483647) : av_wp none cd_105 0 [some (.inr (.inr (.inl (some (0))))), some (.inl x1), some (.inl x2)] [] h (fun _ h1 => av_wp none cd_160 0 [some (.inr (.inr (.inl (some (77))))), some (.inl x1), some (.inl x2)] [] h1 (fun _ h2 => CLS h2)) := by
  refine gd_of (fun hg => ?_)
  obtain ⟨n, a, m, M⟩ := B.2.2.1
  have z := ct_160 M (FM_rf h) x1 q1 x2 q2 (Q := fun _ h2 => CLS h2) (fun w n' a' m' h2 M2 F2 => CLS_FM hg F2 C)
  exact cx_105 B.1 x1 q1 x2 q2 (fun _ => z) (fun _ _ _ _ _ _ => z)
theorem os_125 {h : av_H} (B : BK h) (C : CLS h) (x1 : Int) (q1 : -2147483648 ≤ x1 ∧ x1 ≤ 2147483647) : av_wp none cd_125 0 [some (.inr (.inr (.inl (some (0))))), some (.inl x1)] [] h (fun _ h1 => av_wp none cd_217 0 [some (.inr (.inr (.inl (some (77))))), some (.inl x1)] [] h1 (fun _ h2 => CLS h2)) := by
  refine gd_of (fun hg => ?_)
  obtain ⟨n, a, m, M⟩ := B.2.2.1
  have z := ct_217 M (FM_rf h) x1 q1 (Q := fun _ h2 => CLS h2) (fun w n' a' m' h2 M2 F2 => CLS_FM hg F2 C)
  exact cx_125 B.1 B.2.2.2.2.1 x1 q1 (fun _ _ => z)
theorem os_103 {h : av_H} (B : BK h) (C : CLS h) (x1 x2 : Int) (q1 : -2147483648 ≤ x1 ∧ x1 ≤ 2147483647) (q2 : -2147483648 ≤ x2 ∧ x2 ≤ 2147483647) : av_wp none cd_103 0 [some (.inr (.inr (.inl (some (0))))), some (.inl x1), some (.inl x2), none] [] h (fun _ h1 => av_wp none cd_187 0 [some (.inr (.inr (.inl (some (77))))), some (.inl x1), some (.inl x2)] [] h1 (fun _ h2 => CLS h2)) := by
  refine gd_of (fun hg => ?_)
  obtain ⟨n, a, m, M⟩ := B.2.2.1
  have z := ct_187 M (FM_rf h) x1 q1 x2 q2 (Q := fun _ h2 => CLS h2) (fun w n' a' m' h2 M2 F2 => CLS_FM hg F2 C)
  exact cy_103 B.1 x1 q1 x2 q2 (fun _ => z)
theorem os_104 {h : av_H} (B : BK h) (C : CLS h) (x1 x2 x3 x4 : Int) (q1 : -2147483648 ≤ x1 ∧ x1 ≤ 2147483647) (q2 : -2147483648 ≤ x2 ∧ x2 ≤ 2147483647) (q3 : -2147483648 ≤ x3 ∧ x3 ≤ 2147483647) (q4 : -2147483648 ≤ x4 ∧ x4 ≤ 2147483647) : av_wp none cd_104 0 [some (.inr (.inr (.inl (some (0))))), some (.inl x1), some (.inl x2), some (.inl x3), some (.inl x4), none] [] h (fun _ h1 => av_wp none cd_189 0 [some (.inr (.inr (.inl (some (77))))), some (.inl x1), some (.inl x2), some (.inl x3), some (.inl x4)] [] h1 (fun _ h2 => CLS h2)) := by
  refine gd_of (fun hg => ?_)
  obtain ⟨n, a, m, M⟩ := B.2.2.1
  have z := ct_189 M (FM_rf h) x1 q1 x2 q2 x3 q3 x4 q4 (Q := fun _ h2 => CLS h2) (fun w n' a' m' h2 M2 F2 => CLS_FM hg F2 C)
  refine cx_104 B.1 B.2.2.2.2.1 x1 q1 x2 q2 x3 q3 x4 q4 (fun _ => z) (fun _ _ _ _ _ _ _ _ _ _ _ => z) (fun _ _ _ _ _ _ _ _ _ _ _ _ _ h1 I1 Y1 => gd_of (fun hg1 => ?_))
  have B1 := BK_Fr hg B Y1.1.1 I1
  have C1 : CLS h1 := CLS_cf hg (CF0_Fr hg B.1.1 Y1.1.1) (Y1.2.1 27 (fun j hj => by omega)) C
  obtain ⟨n1, a1, m1, M1⟩ := B1.2.2.1
  exact ct_189 M1 (FM_rf h1) x1 q1 x2 q2 x3 q3 x4 q4 (fun w n' a' m' h2 M2 F2 => CLS_FM hg1 F2 C1)
theorem oz_feed {h : av_H} (B : BX h) (a b c d e : Int)  : av_wp none cd_94 0 [some (.inr (.inr (.inl (some (0))))), some (.inl a), some (.inl b), some (.inl c), some (.inl d), some (.inl e)] [] h (OPX cd_128 [some (.inr (.inr (.inl (some (77))))), some (.inl a), some (.inl b), some (.inl c), some (.inl d), some (.inl e), none, none] h (fun x y => x = y)) := OPX_of (op_feed B.1 a b c d e) (os_feed B.1 B.2 a b c d e)
theorem oz_tell {h : av_H} (B : BX h) (n : Int) (qn : -2147483648 ≤ n ∧ n ≤ 2147483647) : av_wp none cd_95 0 [some (.inr (.inr (.inl (some (0))))), some (.inl n), none] [] h (OPX cd_148 [some (.inr (.inr (.inl (some (77))))), some (.inl n), none] h (fun x y => x = y)) := OPX_of (op_tell B.1 n qn) (os_tell B.1 B.2 n qn)
theorem oz_more {h : av_H} (B : BX h) (k n : Int) (qk : -2147483648 ≤ k ∧ k ≤ 2147483647) (qn : -2147483648 ≤ n ∧ n ≤ 2147483647) : av_wp none cd_96 0 [some (.inr (.inr (.inl (some (0))))), some (.inl k), some (.inl n), none, none] [] h (OPX cd_151 [some (.inr (.inr (.inl (some (77))))), some (.inl k), some (.inl n), none] h (fun x y => x = y)) := OPX_of (op_more B.1 k n qk qn) (os_more B.1 B.2 k n qk qn)
theorem oz_law {h : av_H} (B : BX h) (n : Int) (qn : -2147483648 ≤ n ∧ n ≤ 2147483647) : av_wp none cd_97 0 [some (.inr (.inr (.inl (some (0))))), some (.inl n), none] [] h (OPX cd_156 [some (.inr (.inr (.inl (some (77))))), some (.inl n)] h (fun x y => x = y)) := OPX_of (op_law B.1 n qn) (os_law B.1 B.2 n qn)
theorem oz_clause {h : av_H} (B : BX h) (n : Int) (qn : -2147483648 ≤ n ∧ n ≤ 2147483647) : av_wp none cd_98 0 [some (.inr (.inr (.inl (some (0))))), some (.inl n), none] [] h (OPX cd_157 [some (.inr (.inr (.inl (some (77))))), some (.inl n)] h (fun x y => x = y)) := OPX_of (op_clause B.1 n qn) (os_clause B.1 B.2 n qn)
theorem oz_image {h : av_H} (B : BX h)  : av_wp none cd_123 0 [some (.inr (.inr (.inl (some (0))))), none] [] h (OPX cd_214 [some (.inr (.inr (.inl (some (77)))))] h (fun x y => x = y)) := OPX_of (op_image B.1  ) (os_image B.1 B.2  )
theorem oz_back {h : av_H} (B : BX h) (k : Int) (qk : -2147483648 ≤ k ∧ k ≤ 2147483647) : av_wp none cd_124 0 [some (.inr (.inr (.inl (some (0))))), some (.inl k)] [] h (OPX cd_215 [some (.inr (.inr (.inl (some (77))))), some (.inl k)] h (fun x y => x = y)) := OPX_of (op_back B.1 k qk) (os_back B.1 B.2 k qk)
theorem oz_100 {h : av_H} (B : BX h)  : av_wp none cd_100 0 [some (.inr (.inr (.inl (some (0)))))] [] h (OPX cd_158 [some (.inr (.inr (.inl (some (77)))))] h (fun x y => x = y)) := OPX_of (ox_100 B.1  ) (os_100 B.1 B.2  )
theorem oz_101 {h : av_H} (B : BX h) (x1 x2 x3 : Int) (q1 : -2147483648 ≤ x1 ∧ x1 ≤ 2147483647) (q2 : -2147483648 ≤ x2 ∧ x2 ≤ 2147483647) (q3 : -2147483648 ≤ x3 ∧ x3 ≤ 2147483647) : av_wp none cd_101 0 [some (.inr (.inr (.inl (some (0))))), some (.inl x1), some (.inl x2), some (.inl x3), none, none] [] h (OPX cd_161 [some (.inr (.inr (.inl (some (77))))), some (.inl x1), some (.inl x2), some (.inl x3), none] h (fun x y => x = y)) := OPX_of (ox_101 B.1 x1 x2 x3 q1 q2 q3) (os_101 B.1 B.2 x1 x2 x3 q1 q2 q3)
theorem oz_105 {h : av_H} (B : BX h) (x1 x2 : Int) (q1 : -2147483648 ≤ x1 ∧ x1 ≤ 2147483647) (q2 : -2147483648 ≤ x2 ∧ x2 ≤ 2147483647) : av_wp none cd_105 0 [some (.inr (.inr (.inl (some (0))))), some (.inl x1), some (.inl x2)] [] h (OPX cd_160 [some (.inr (.inr (.inl (some (77))))), some (.inl x1), some (.inl x2)] h (fun x y => x = y)) := OPX_of (ox_105 B.1 x1 x2 q1 q2) (os_105 B.1 B.2 x1 x2 q1 q2)
theorem oz_125 {h : av_H} (B : BX h) (x1 : Int) (q1 : -2147483648 ≤ x1 ∧ x1 ≤ 2147483647) : av_wp none cd_125 0 [some (.inr (.inr (.inl (some (0))))), some (.inl x1)] [] h (OPX cd_217 [some (.inr (.inr (.inl (some (77))))), some (.inl x1)] h (fun x y => x = y)) := OPX_of (ox_125 B.1 x1 q1) (os_125 B.1 B.2 x1 q1)
theorem oz_103 {h : av_H} (B : BX h) (x1 x2 : Int) (q1 : -2147483648 ≤ x1 ∧ x1 ≤ 2147483647) (q2 : -2147483648 ≤ x2 ∧ x2 ≤ 2147483647) : av_wp none cd_103 0 [some (.inr (.inr (.inl (some (0))))), some (.inl x1), some (.inl x2), none] [] h (OPX cd_187 [some (.inr (.inr (.inl (some (77))))), some (.inl x1), some (.inl x2)] h (fun _ _ => True)) := OPX_of (op_103 B.1 x1 x2 q1 q2) (os_103 B.1 B.2 x1 x2 q1 q2)
theorem oz_104 {h : av_H} (B : BX h) (x1 x2 x3 x4 : Int) (q1 : -2147483648 ≤ x1 ∧ x1 ≤ 2147483647) (q2 : -2147483648 ≤ x2 ∧ x2 ≤ 2147483647) (q3 : -2147483648 ≤ x3 ∧ x3 ≤ 2147483647) (q4 : -2147483648 ≤ x4 ∧ x4 ≤ 2147483647) : av_wp none cd_104 0 [some (.inr (.inr (.inl (some (0))))), some (.inl x1), some (.inl x2), some (.inl x3), some (.inl x4), none] [] h (OPX cd_189 [some (.inr (.inr (.inl (some (77))))), some (.inl x1), some (.inl x2), some (.inl x3), some (.inl x4)] h (fun x y => x = y)) := OPX_of (ox_104 B.1 x1 x2 x3 x4 q1 q2 q3 q4) (os_104 B.1 B.2 x1 x2 x3 x4 q1 q2 q3 q4)
end
section
/-! WHAT MORE LOOKS ANSWER -/
/-- whom a bargain binds -/
def bdv (u : Nat → Int) (b : T3) : Int := if b.2.2 = 9999 then 0 else av_or (av_shl (1) (u (21 * b.2.1.toNat + 1))) (av_shl (1) (u (21 * b.2.1.toNat + 2)))
theorem UHW_o {u ro : Nat → Int} {s k : Nat} (x : UHW u s) (hk : k < s) (e : ofv u ro k ≠ 0) : (0 ≤ u (21 * k + 1) ∧ u (21 * k + 1) ≤ 2) ∧ 0 ≤ u (21 * k + 2) ∧ u (21 * k + 2) ≤ 2 := by
  have h := x k hk
  refine ⟨h.1, h.2 ?_⟩
  unfold ofv at e
  split at e
  · next c =>
    rcases c with c | c
    · exact Or.inl c
    · exact Or.inr (Or.inr c.1)
  · exact absurd rfl e
/-- the first hour at which goods of the bargain of mo were sent or came, by what the rules say; 9999: none -/
def rpv (u ro : Nat → Int) (a : Nat → Nat → Int) (mo : Int) : Nat → Int
  | 0 => 9999
  | k + 1 => if u (21 * k + 0) = 7 ∧ u (21 * k + 3) = mo ∧ hw a k (ro 12 - 1) ≠ -1 then mn2 (rpv u ro a mo k) (hw a k (ro 12 - 1)) else rpv u ro a mo k
theorem rpv_g {u ro : Nat → Int} {a a' : Nat → Nat → Int} {s : Nat} {mo : Int} (g : AGR s a a') : ∀ k, k ≤ s → rpv u ro a mo k = rpv u ro a' mo k := by
  intro k
  induction k with
  | zero => intro _; rfl
  | succ k ih =>
    intro hk
    show (if u (21 * k + 0) = 7 ∧ u (21 * k + 3) = mo ∧ hw a k (ro 12 - 1) ≠ -1 then mn2 (rpv u ro a mo k) (hw a k (ro 12 - 1)) else rpv u ro a mo k) = (if u (21 * k + 0) = 7 ∧ u (21 * k + 3) = mo ∧ hw a' k (ro 12 - 1) ≠ -1 then mn2 (rpv u ro a' mo k) (hw a' k (ro 12 - 1)) else rpv u ro a' mo k)
    rw [hw_g g (by omega), ih (by omega)]
theorem rpv_n {u ro : Nat → Int} {a : Nat → Nat → Int} {mo x : Int} {k : Nat} (e0 : u (21 * k + 0) = x) (c : x ≠ 7) : rpv u ro a mo (k + 1) = rpv u ro a mo k := if_neg (fun z => c (e0.symm.trans z.1))
theorem rpv_m {u ro : Nat → Int} {a : Nat → Nat → Int} {mo y : Int} {k : Nat} (e3 : u (21 * k + 3) = y) (c : y ≠ mo) : rpv u ro a mo (k + 1) = rpv u ro a mo k := if_neg (fun z => c (e3.symm.trans z.2.1))
theorem rpv_h {u ro : Nat → Int} {a : Nat → Nat → Int} {mo x : Int} {k : Nat} (e : hw a k (ro 12 - 1) = x) (c : x = -1) : rpv u ro a mo (k + 1) = rpv u ro a mo k := if_neg (fun z => z.2.2 (e.trans c))
theorem rpv_y {u ro : Nat → Int} {a : Nat → Nat → Int} {mo x y v : Int} {k : Nat} (e0 : u (21 * k + 0) = x) (c0 : x = 7) (e3 : u (21 * k + 3) = y) (c3 : y = mo) (e : hw a k (ro 12 - 1) = v) (c : v ≠ -1) : rpv u ro a mo (k + 1) = mn2 (rpv u ro a mo k) v := by
  have h : rpv u ro a mo (k + 1) = if u (21 * k + 0) = 7 ∧ u (21 * k + 3) = mo ∧ hw a k (ro 12 - 1) ≠ -1 then mn2 (rpv u ro a mo k) (hw a k (ro 12 - 1)) else rpv u ro a mo k := rfl
  rw [h, if_pos ⟨e0.trans c0, e3.trans c3, by rw [e]; exact c⟩, e]
theorem rpv_r {u ro : Nat → Int} {a : Nat → Nat → Int} {s : Nat} {mo : Int} (H : HBd s a) : ∀ k, k ≤ s → rpv u ro a mo k = 9999 ∨ (0 ≤ rpv u ro a mo k ∧ rpv u ro a mo k ≤ 5000) := by
  intro k
  induction k with
  | zero => intro _; exact Or.inl rfl
  | succ k ih =>
    intro hk
    have i := ih (by omega)
    have w := hw_r H (k := k) (by omega) (ro 12 - 1)
    have e : rpv u ro a mo (k + 1) = if u (21 * k + 0) = 7 ∧ u (21 * k + 3) = mo ∧ hw a k (ro 12 - 1) ≠ -1 then mn2 (rpv u ro a mo k) (hw a k (ro 12 - 1)) else rpv u ro a mo k := rfl
    rw [e]
    split
    · next c =>
      have := c.2.2
      unfold mn2
      split <;> omega
    · exact i
/-- from when on the other hand bears the goods; 9999: never -/
def rpx (u ro : Nat → Int) (a : Nat → Nat → Int) (s : Nat) (b : T3) : Int := if ro 12 = 0 then b.2.2 else rpv u ro a b.2.1 s
/-- who bears them at hour w -/
def bev (u ro : Nat → Int) (a : Nat → Nat → Int) (s : Nat) (b : T3) (w : Int) : Int := if b.2.2 = 9999 then -1 else if rpx u ro a s b ≠ 9999 ∧ rpx u ro a s b ≤ w ∧ b.2.2 ≤ w then u (21 * b.2.1.toNat + 2) else u (21 * b.2.1.toNat + 1)
theorem rpx_r {u ro : Nat → Int} {a : Nat → Nat → Int} {s : Nat} {mb mo ma : Int} (H : HBd s a) (qm : -1 ≤ ma ∧ ma ≤ 9999) : -1 ≤ rpx u ro a s (mb, mo, ma) ∧ rpx u ro a s (mb, mo, ma) ≤ 9999 := by
  have h := rpv_r (u := u) (ro := ro) (mo := mo) H s (Nat.le_refl s)
  show -1 ≤ (if ro 12 = 0 then ma else rpv u ro a mo s) ∧ (if ro 12 = 0 then ma else rpv u ro a mo s) ≤ 9999
  split
  · exact qm
  · omega
theorem HBd_g {u : Nat → Int} {s : Nat} {x : Int} {a : Nat → Nat → Int} (W : ∀ x : Int, 0 ≤ x → x ≤ 1023 → ∀ k, k < s → ∀ j, j < 3 → -1 ≤ hrv u x k j ∧ hrv u x k j ≤ 5000) (X : HX u s x a) (hx : 0 ≤ x ∧ x ≤ 1023) : HBd s a := fun k hk i hi => by
  rw [X k hk i hi]
  exact W x hx.1 hx.2 k hk i hi
theorem bev_g {u ro : Nat → Int} {a a' : Nat → Nat → Int} {s : Nat} {b : T3} {w : Int} (g : AGR s a a') : bev u ro a s b w = bev u ro a' s b w := by
  unfold bev rpx
  rw [rpv_g g s (Nat.le_refl s)]
/-- a bargain's hour isn't before the beginning -/
theorem yv_0 {u ro : Nat → Int} {a : Nat → Nat → Int} {s : Nat} (H : HBd s a) : ∀ k, k ≤ s → 0 ≤ (yv u ro a s k).2.2 := by
  intro k
  induction k with
  | zero => intro _; show (0 : Int) ≤ 9999; omega
  | succ k ih =>
    intro hk
    show 0 ≤ (if yc u ro a s k (yv u ro a s k).2.2 = 1 then ((k : Int), u (21 * k + 3), hw a k (yw u ro k)) else yv u ro a s k).2.2
    split
    · next z =>
      show 0 ≤ hw a k (yw u ro k)
      have w := hw_r H (k := k) (by omega) (yw u ro k)
      have o := fun q hq => o5_r (ro := ro) H (q := q) hq
      unfold yc at z
      split at z
      · next y =>
        have q5 := o (u (21 * k + 3)).toNat (by omega)
        have p := opn_1 _ _ _ y.2.2.2.2.2.2.2.2
        omega
      · omega
    · exact ih (by omega)
theorem sv_0 {u ro : Nat → Int} {a : Nat → Nat → Int} {s : Nat} (H : HBd s a) : ∀ k, k ≤ s → 0 ≤ (sv u ro a s k).2.2 := by
  intro k
  induction k with
  | zero => intro _; exact yv_0 H s (Nat.le_refl s)
  | succ k ih =>
    intro hk
    show 0 ≤ (if slc u ro a s k (sv u ro a s k).2.2 = 1 then (-1, (k : Int), hw a k 2 + ro 8) else sv u ro a s k).2.2
    split
    · next z =>
      show 0 ≤ hw a k 2 + ro 8
      have w := hw_r H (k := k) (by omega) 2
      have q5 := o5_r (ro := ro) H (q := k) (by omega)
      unfold slc at z
      split at z
      · next y =>
        have p := opn_1 _ _ _ y.2.2.2.2
        omega
      · omega
    · exact ih (by omega)
theorem bgn_0 {u ro bar : Nat → Int} {s : Nat} {x : Int} (H : HBd s (arr u ro bar x)) : (bgn u ro bar s x).2.2 = 9999 ∨ (0 ≤ (bgn u ro bar s x).2.2 ∧ (bgn u ro bar s x).2.2 < 9999) := by
  have h0 : 0 ≤ (bgn u ro bar s x).2.2 := by
    unfold bgn brg
    split
    · exact sv_0 H s (Nat.le_refl s)
    · exact yv_0 H s (Nat.le_refl s)
  rcases bgn_f (u := u) (ro := ro) (bar := bar) (s := s) (x := x) with y | y
  · exact Or.inl y.1
  · exact Or.inr ⟨h0, y.1⟩
end
section
/-! BINDS, exactly -/
set_option maxRecDepth 100000 in
set_option maxHeartbeats 4000000 in
theorem cx_18 {g h : av_H} {b t c s r : Nat} {cb : Int} {u ro : Nat → Int} {a : Nat → Nat → Int} {mb mo ma : Int} (E : EB b t c s r cb u ro a mb mo ma h) (F : FN b g h) (hm : (ma = 9999 ∧ mo = -1) ∨ (ma ≠ 9999 ∧ (0 ≤ mo ∧ mo < (s : Int)) ∧ (0 ≤ u (21 * Int.toNat mo + 1) ∧ u (21 * Int.toNat mo + 1) ≤ 2) ∧ (0 ≤ u (21 * Int.toNat mo + 2) ∧ u (21 * Int.toNat mo + 2) ≤ 2))) {Q : Option av_V → av_H → Prop} (hq : ∀ v : Int, v = bdv u (mb, mo, ma) → Q (some (.inl v)) h) : av_wp none cd_18 0 [some (.inr (.inr (.inl (some (b))))), none, none] [] h Q := by
  have s12 := co_s12 (ib_co E.1)
  have cbr := co_cbr (ib_co E.1)
  have mbr := eb_xr E
  have mor := eb_yr E
  refine av_wp_sqF ck_18 1 (pc' := 1) (lv' := [some (.inr (.inr (.inl (some (b))))), none, none]) (st' := [.inr (.inr (.inl (some (b))))]) (h' := h) rfl ?_
  refine wq_gr (p' := 4) (ck_18 _ _ rfl) rfl (congrArg Prod.fst (ib_k0 E.1)) rfl (ib_t E.1) ?_
  refine av_wp_sqF ck_18 1 (pc' := 5) (lv' := [some (.inr (.inr (.inl (some (b))))), none, none]) (st' := [.inr (.inr (.inl (some (b)))), .inr (.inr (.inl (some (t))))]) (h' := h) rfl ?_
  refine wq_gi (p' := 8) (ck_18 _ _ rfl) rfl (congrArg Prod.fst (ib_k0 E.1)) rfl (eb_y E) ?_
  refine av_wp_sqF ck_18 1 (pc' := 9) (lv' := [some (.inr (.inr (.inl (some (b))))), none, none]) (st' := [.inl (1), .inl mo, .inr (.inr (.inl (some (t))))]) (h' := h) rfl ?_
  refine wq_cv (p' := 12) (av_qc (.invokevirtual 74) 29 2 0 1) 3 cd_29 [.inl (1), .inl mo] (t) 1 [some (.inr (.inr (.inl (some (t))))), some (.inl mo), some (.inl (1))] (ck_18 _ _ rfl) rfl rfl pp_29 rfl rfl rfl (congrArg Prod.fst (co_kt (ib_co E.1))) rfl rfl rfl rfl ?_
  refine xc_29b (ib_co E.1) (mo) (by omega) 1 (by omega) rfl (fun z1 => ?_) (fun z2 z3 v4 e5 => ?_)
  · show av_wp _ cd_18 12 [some (.inr (.inr (.inl (some (b))))), none, none] [.inl (-1)] h _
    refine av_wp_sqF ck_18 2 (pc' := 14) (lv' := [some (.inr (.inr (.inl (some (b))))), some (.inl (-1)), none]) (st' := [.inr (.inr (.inl (some (b))))]) (h' := h) rfl ?_
    refine wq_gr (p' := 17) (ck_18 _ _ rfl) rfl (congrArg Prod.fst (ib_k0 E.1)) rfl (ib_t E.1) ?_
    refine av_wp_sqF ck_18 1 (pc' := 18) (lv' := [some (.inr (.inr (.inl (some (b))))), some (.inl (-1)), none]) (st' := [.inr (.inr (.inl (some (b)))), .inr (.inr (.inl (some (t))))]) (h' := h) rfl ?_
    refine wq_gi (p' := 21) (ck_18 _ _ rfl) rfl (congrArg Prod.fst (ib_k0 E.1)) rfl (eb_y E) ?_
    refine av_wp_sqF ck_18 1 (pc' := 22) (lv' := [some (.inr (.inr (.inl (some (b))))), some (.inl (-1)), none]) (st' := [.inl (2), .inl mo, .inr (.inr (.inl (some (t))))]) (h' := h) rfl ?_
    refine wq_cv (p' := 25) (av_qc (.invokevirtual 74) 29 2 0 1) 3 cd_29 [.inl (2), .inl mo] (t) 1 [some (.inr (.inr (.inl (some (t))))), some (.inl mo), some (.inl (2))] (ck_18 _ _ rfl) rfl rfl pp_29 rfl rfl rfl (congrArg Prod.fst (co_kt (ib_co E.1))) rfl rfl rfl rfl ?_
    refine xc_29b (ib_co E.1) (mo) (by omega) 2 (by omega) rfl (fun z7 => ?_) (fun z8 z9 v10 e11 => ?_)
    · show av_wp _ cd_18 25 [some (.inr (.inr (.inl (some (b))))), some (.inl (-1)), none] [.inl (-1)] h _
      refine av_wp_sqF ck_18 5 (pc' := 45) (lv' := [some (.inr (.inr (.inl (some (b))))), some (.inl (-1)), some (.inl (-1))]) (st' := [.inl (0)]) (h' := h) rfl ?_
      refine av_wp_ret (v := some (.inl (0))) (ck_18 _ _ rfl) rfl rfl ?_
      exact hq _ (by show (0 : Int) = (if ma = 9999 then 0 else _); rw [if_pos (by omega)])
    · rw [eb_u E] at e11
      have g12 := eb_uv E (21 * Int.toNat (mo) + 2)
      rw [e11] at g12
      show av_wp _ cd_18 25 [some (.inr (.inr (.inl (some (b))))), some (.inl (-1)), none] [.inl v10] h _
      refine av_wp_sqF ck_18 5 (pc' := 45) (lv' := [some (.inr (.inr (.inl (some (b))))), some (.inl (-1)), some (.inl v10)]) (st' := [.inl (0)]) (h' := h) rfl ?_
      refine av_wp_ret (v := some (.inl (0))) (ck_18 _ _ rfl) rfl rfl ?_
      exact hq _ (by show (0 : Int) = (if ma = 9999 then 0 else _); rw [if_pos (by omega)])
  · rw [eb_u E] at e5
    have g6 := eb_uv E (21 * Int.toNat (mo) + 1)
    rw [e5] at g6
    show av_wp _ cd_18 12 [some (.inr (.inr (.inl (some (b))))), none, none] [.inl v4] h _
    refine av_wp_sqF ck_18 2 (pc' := 14) (lv' := [some (.inr (.inr (.inl (some (b))))), some (.inl v4), none]) (st' := [.inr (.inr (.inl (some (b))))]) (h' := h) rfl ?_
    refine wq_gr (p' := 17) (ck_18 _ _ rfl) rfl (congrArg Prod.fst (ib_k0 E.1)) rfl (ib_t E.1) ?_
    refine av_wp_sqF ck_18 1 (pc' := 18) (lv' := [some (.inr (.inr (.inl (some (b))))), some (.inl v4), none]) (st' := [.inr (.inr (.inl (some (b)))), .inr (.inr (.inl (some (t))))]) (h' := h) rfl ?_
    refine wq_gi (p' := 21) (ck_18 _ _ rfl) rfl (congrArg Prod.fst (ib_k0 E.1)) rfl (eb_y E) ?_
    refine av_wp_sqF ck_18 1 (pc' := 22) (lv' := [some (.inr (.inr (.inl (some (b))))), some (.inl v4), none]) (st' := [.inl (2), .inl mo, .inr (.inr (.inl (some (t))))]) (h' := h) rfl ?_
    refine wq_cv (p' := 25) (av_qc (.invokevirtual 74) 29 2 0 1) 3 cd_29 [.inl (2), .inl mo] (t) 1 [some (.inr (.inr (.inl (some (t))))), some (.inl mo), some (.inl (2))] (ck_18 _ _ rfl) rfl rfl pp_29 rfl rfl rfl (congrArg Prod.fst (co_kt (ib_co E.1))) rfl rfl rfl rfl ?_
    obtain ⟨v13, e14⟩ : ∃ v, u (21 * Int.toNat (mo) + 2) = v := ⟨_, rfl⟩
    have g15 := eb_uv E (21 * Int.toNat (mo) + 2)
    rw [e14] at g15
    refine xc_29 (ib_co E.1) (mo) (by omega) 2 (by omega) rfl ((congrFun (eb_u E) _).trans e14) ?_
    show av_wp _ cd_18 25 [some (.inr (.inr (.inl (some (b))))), some (.inl v4), none] [.inl v13] h _
    refine av_wp_sqF ck_18 2 (pc' := 27) (lv' := [some (.inr (.inr (.inl (some (b))))), some (.inl v4), some (.inl v13)]) (st' := [.inl v4]) (h' := h) rfl ?_
    refine wq_k1 (p' := 30) (ck_18 _ _ rfl) rfl ⟨by omega, by omega⟩ (fun c16 => ?_) (fun c17 => ?_)
    · have c16 : v4 < (0) := c16
      refine av_wp_sqF ck_18 2 (pc' := 45) (lv' := [some (.inr (.inr (.inl (some (b))))), some (.inl v4), some (.inl v13)]) (st' := [.inl (0)]) (h' := h) rfl ?_
      refine av_wp_ret (v := some (.inl (0))) (ck_18 _ _ rfl) rfl rfl ?_
      exact hq _ (by show (0 : Int) = (if ma = 9999 then 0 else _); rw [if_pos (by omega)])
    · have c17 : (0) ≤ v4 := c17
      refine av_wp_sqF ck_18 1 (pc' := 31) (lv' := [some (.inr (.inr (.inl (some (b))))), some (.inl v4), some (.inl v13)]) (st' := [.inl v13]) (h' := h) rfl ?_
      refine wq_k1 (p' := 34) (ck_18 _ _ rfl) rfl ⟨by omega, by omega⟩ (fun c18 => ?_) (fun c19 => ?_)
      · have c18 : (0) ≤ v13 := c18
        refine av_wp_sqF ck_18 7 (pc' := 45) (lv' := [some (.inr (.inr (.inl (some (b))))), some (.inl v4), some (.inl v13)]) (st' := [.inl (av_or (av_shl (1) v4) (av_shl (1) v13))]) (h' := h) rfl ?_
        refine av_wp_ret (v := some (.inl (av_or (av_shl (1) v4) (av_shl (1) v13)))) (ck_18 _ _ rfl) rfl rfl ?_
        exact hq _ (by show _ = (if ma = 9999 then 0 else av_or (av_shl (1) (u (21 * Int.toNat mo + 1))) (av_shl (1) (u (21 * Int.toNat mo + 2)))); rw [if_neg (by omega), e5, e14])
      · have c19 : v13 < (0) := c19
        refine av_wp_sqF ck_18 2 (pc' := 45) (lv' := [some (.inr (.inr (.inl (some (b))))), some (.inl v4), some (.inl v13)]) (st' := [.inl (0)]) (h' := h) rfl ?_
        refine av_wp_ret (v := some (.inl (0))) (ck_18 _ _ rfl) rfl rfl ?_
        exact hq _ (by show (0 : Int) = (if ma = 9999 then 0 else _); rw [if_pos (by omega)])

set_option maxRecDepth 100000 in
set_option maxHeartbeats 4000000 in
theorem cx_108 {h : av_H} {U : Nat → Nat → Int} {S : Nat → Nat} {n : Int} {sr nd : Nat → Int} (C : CJ U S n sr nd h) (k : Int) (qk : -2147483648 ≤ k ∧ k ≤ 2147483647) (l : Int) (ql : -2147483648 ≤ l ∧ l ≤ 2147483647) (x : Int) (qx : -2147483648 ≤ x ∧ x ≤ 2147483647) (CR : CRT U S n (hF h 3 4) (fun k => hA h (6 + k))) (SU : SUA U S n (hF h 3 4) (fun k => hA h (6 + k)) sr) (UH : ∀ i : Nat, (i : Int) < n → UHW (U i) (S i)) {Q : Option av_V → av_H → Prop} (hq : ∀ (v : Int) h' sr' nd', CJ U S n sr' nd' h' → FP 35 h h' → SUA U S n (hF h 3 4) (fun k => hA h (6 + k)) sr' → RSP (okx U S n (hF h 3 4) k l x) (-2) (bdv (U (Int.toNat k)) (bgx U S (fun k => hA h (6 + k)) k l x)) v → Q (some (.inl v)) h') : av_wp none cd_108 0 [some (.inr (.inr (.inl (some (0))))), some (.inl k), some (.inl l), some (.inl x)] [] h Q := by
  have F := FP_rf 35 h
  have nr := C.2.1.2.1
  refine av_wp_sqF ck_108 1 (pc' := 1) (lv' := [some (.inr (.inr (.inl (some (0))))), some (.inl k), some (.inl l), some (.inl x)]) (st' := [.inr (.inr (.inl (some (0))))]) (h' := h) rfl ?_
  refine wq_gr (p' := 4) (ck_108 _ _ rfl) rfl (congrArg Prod.fst (ly_k C.1.1 0 rfl)) rfl (ly_g C.1.1 0 5 26 rfl) ?_
  refine av_wp_sqF ck_108 3 (pc' := 7) (lv' := [some (.inr (.inr (.inl (some (0))))), some (.inl k), some (.inl l), some (.inl x)]) (st' := [.inl x, .inl l, .inl k, .inr (.inr (.inl (some (26))))]) (h' := h) rfl ?_
  refine wq_cv (p' := 10) (av_qc (.invokevirtual 160) 48 3 0 3) 5 cd_48 [.inl x, .inl l, .inl k] (26) 3 [some (.inr (.inr (.inl (some (26))))), some (.inl k), some (.inl l), some (.inl x), none] (ck_108 _ _ rfl) rfl rfl pp_48 rfl rfl rfl (congrArg Prod.fst (ly_k C.1.1 26 rfl)) rfl rfl rfl rfl ?_
  refine cz_48 C (k) (by omega) (l) (by omega) (x) (by omega) CR SU (fun z1 => ?_) (fun z1 z2 z3 h4 r5 n6 t7 c8 a9 m10 m11 m12 C13 F14 U15 E16 Z17 T18 D19 B20 R21 => ?_)
  · show av_wp _ cd_108 10 [some (.inr (.inr (.inl (some (0))))), some (.inl k), some (.inl l), some (.inl x)] [.inl (0)] h _
    refine av_wp_sqF ck_108 2 (pc' := 15) (lv' := [some (.inr (.inr (.inl (some (0))))), some (.inl k), some (.inl l), some (.inl x)]) (st' := [.inl (-2)]) (h' := h) rfl ?_
    refine av_wp_ret (v := some (.inl (-2))) (ck_108 _ _ rfl) rfl rfl ?_
    exact hq _ h _ _ C F SU (Or.inr ⟨by unfold okx; omega, rfl⟩)
  · have b24 := bgn_f (u := U (Int.toNat k)) (ro := (hA h (6 + Int.toNat l))) (bar := (brv (U (Int.toNat k)) (srt U S (hA h (6 + Int.toNat l)) (Int.toNat k)))) (s := S (Int.toNat k)) (x := x)
    rw [B20] at b24
    have b24 : (m12 = 9999 ∧ m10 = -1 ∧ m11 = -1) ∨ (m12 < 9999 ∧ (0 ≤ m11 ∧ m11 < (S (Int.toNat k) : Int) ∧ ofv (U (Int.toNat k)) (hA h (6 + Int.toNat l)) (Int.toNat m11) ≠ 0) ∧ (m10 = -1 ∨ (0 ≤ m10 ∧ m10 < (S (Int.toNat k) : Int) ∧ ysv (U (Int.toNat k)) (hA h (6 + Int.toNat l)) (Int.toNat m10) ≠ 0))) := b24
    have g22 : (-1 ≤ m10 ∧ m10 ≤ 11) ∧ (-1 ≤ m11 ∧ m11 ≤ 11) ∧ (-1 ≤ m12 ∧ m12 ≤ 9999) := R21
    have g23 := co_s12 (ib_co E16.1)
    show av_wp _ cd_108 10 [some (.inr (.inr (.inl (some (0))))), some (.inl k), some (.inl l), some (.inl x)] [.inl (1)] h4 _
    refine av_wp_sqF ck_108 2 (pc' := 17) (lv' := [some (.inr (.inr (.inl (some (0))))), some (.inl k), some (.inl l), some (.inl x)]) (st' := [.inr (.inr (.inl (some (0))))]) (h' := h4) rfl ?_
    refine wq_gr (p' := 20) (ck_108 _ _ rfl) rfl (congrArg Prod.fst (ly_k C13.1.1 0 rfl)) rfl (ly_g C13.1.1 0 5 26 rfl) ?_
    refine wq_gr (p' := 23) (ck_108 _ _ rfl) rfl (congrArg Prod.fst (ly_k C13.1.1 26 rfl)) rfl (ly_g C13.1.1 26 1 35 rfl) ?_
    refine wq_cv (p' := 26) (av_qc (.invokevirtual 199) 18 0 0 0) 3 cd_18 [] (35) 0 [some (.inr (.inr (.inl (some (35))))), none, none] (ck_108 _ _ rfl) rfl rfl pp_18 rfl rfl rfl (congrArg Prod.fst (bn_k0 C13.1.1 (Or.inl rfl))) rfl rfl rfl rfl ?_
    refine cx_18 E16 (FN_rf 35 h4) (b24.elim (fun z => Or.inl ⟨z.1, z.2.2⟩) (fun z => Or.inr ⟨by omega, ⟨z.2.1.1, z.2.1.2.1⟩, UHW_o (UH (Int.toNat k) (by omega)) (by omega) z.2.1.2.2⟩)) (fun v25 p26 => ?_)
    show av_wp _ cd_108 26 [some (.inr (.inr (.inl (some (0))))), some (.inl k), some (.inl l), some (.inl x)] [.inl v25] h4 _
    refine av_wp_ret (v := some (.inl v25)) (ck_108 _ _ rfl) rfl rfl ?_
    exact hq _ h4 _ _ C13 F14 U15 (Or.inl ⟨by unfold okx; omega, by rw [show bgx U S (fun k => hA h (6 + k)) k l x = _ from B20]; exact p26⟩)
end
section
/-! BEARS, exactly -/
set_option maxRecDepth 100000 in
set_option maxHeartbeats 4000000 in
theorem cx_20 {g h : av_H} {b t c s r : Nat} {cb : Int} {u ro : Nat → Int} {a : Nat → Nat → Int} {mb mo ma : Int} (E : EB b t c s r cb u ro a mb mo ma h) (F : FN b g h) (H : HBd s a) (R : RLW ro) (qm : -1 ≤ ma ∧ ma ≤ 9999) {Q : Option av_V → av_H → Prop} (hq : ∀ v : Int, v = rpx u ro a s (mb, mo, ma) → Q (some (.inl v)) h) : av_wp none cd_20 0 [some (.inr (.inr (.inl (some (b))))), none, none, none] [] h Q := by
  have s12 := co_s12 (ib_co E.1)
  have cbr := co_cbr (ib_co E.1)
  have mbr := eb_xr E
  have mor := eb_yr E
  refine av_wp_sqF ck_20 1 (pc' := 1) (lv' := [some (.inr (.inr (.inl (some (b))))), none, none, none]) (st' := [.inr (.inr (.inl (some (b))))]) (h' := h) rfl ?_
  refine wq_gr (p' := 4) (ck_20 _ _ rfl) rfl (congrArg Prod.fst (ib_k0 E.1)) rfl (ib_r E.1) ?_
  refine av_wp_sqF ck_20 1 (pc' := 6) (lv' := [some (.inr (.inr (.inl (some (b))))), none, none, none]) (st' := [.inl (12), .inr (.inr (.inl (some (r))))]) (h' := h) rfl ?_
  obtain ⟨v2, e3⟩ : ∃ v, ro 12 = v := ⟨_, rfl⟩
  have g1 := eb_rv E 12
  rw [e3] at g1
  have g4 := rl_12 R
  rw [e3] at g4
  refine wq_al (p' := 7) (n := 14) (ck_20 _ _ rfl) rfl (ib_kr E.1) (by omega) ((congrFun (eb_ro E) _).trans e3) ?_
  refine wq_k1 (p' := 10) (ck_20 _ _ rfl) rfl ⟨by omega, by omega⟩ (fun c5 => ?_) (fun c6 => ?_)
  · have c5 : v2 ≠ (0) := c5
    refine av_wp_sqF ck_20 4 (pc' := 21) (lv' := [some (.inr (.inr (.inl (some (b))))), some (.inl (9999)), some (.inl (0)), none]) (st' := []) (h' := h) rfl ?_
    have L11 : ∀ (m10 : Nat) (k7 : Int) (k8 : Int) (a9 : Option av_V), av_lg a9 = false → rpv u ro a mo (Int.toNat k8) = k7 → k8 ≤ (s : Int) → (-1 ≤ k7 ∧ k7 ≤ 9999) → (0 ≤ k8 ∧ k8 ≤ 12) → ((s : Int) - k8).toNat = m10 → av_wp none cd_20 21 [some (.inr (.inr (.inl (some (b))))), some (.inl k7), some (.inl k8), a9] [] h Q := by
      intro m10
      induction m10 using Nat.strongRecOn with
      | _ m10 I12 =>
        intro k7 k8 a9 g14 g15 g16 g17 g18 e13
        have la9 := g14
        refine av_wp_sqF ck_20 2 (pc' := 23) (lv' := [some (.inr (.inr (.inl (some (b))))), some (.inl k7), some (.inl k8), a9]) (st' := [.inr (.inr (.inl (some (b)))), .inl k8]) (h' := h) rfl ?_
        refine wq_gr (p' := 26) (ck_20 _ _ rfl) rfl (congrArg Prod.fst (ib_k0 E.1)) rfl (ib_t E.1) ?_
        refine wq_gi (p' := 29) (ck_20 _ _ rfl) rfl (congrArg Prod.fst (co_kt (ib_co E.1))) rfl (co_s (ib_co E.1)) ?_
        refine wq_k2 (p' := 32) (ck_20 _ _ rfl) rfl ⟨by omega, by omega⟩ ⟨by omega, by omega⟩ (fun c19 => ?_) (fun c20 => ?_)
        · have c19 : (s : Int) ≤ k8 := c19
          refine av_wp_sqF ck_20 1 (pc' := 99) (lv' := [some (.inr (.inr (.inl (some (b))))), some (.inl k7), some (.inl k8), a9]) (st' := [.inl k7]) (h' := h) rfl ?_
          refine av_wp_ret (v := some (.inl k7)) (ck_20 _ _ rfl) rfl rfl ?_
          exact hq _ (by show _ = (if ro 12 = 0 then ma else rpv u ro a mo s); rw [if_neg (by rw [e3]; omega), ← g15, show Int.toNat k8 = s by omega])
        · have c20 : k8 < (s : Int) := c20
          refine av_wp_sqF ck_20 1 (pc' := 33) (lv' := [some (.inr (.inr (.inl (some (b))))), some (.inl k7), some (.inl k8), a9]) (st' := [.inr (.inr (.inl (some (b))))]) (h' := h) rfl ?_
          refine wq_gr (p' := 36) (ck_20 _ _ rfl) rfl (congrArg Prod.fst (ib_k0 E.1)) rfl (ib_t E.1) ?_
          refine av_wp_sqF ck_20 2 (pc' := 38) (lv' := [some (.inr (.inr (.inl (some (b))))), some (.inl k7), some (.inl k8), a9]) (st' := [.inl (0), .inl k8, .inr (.inr (.inl (some (t))))]) (h' := h) rfl ?_
          refine wq_cv (p' := 41) (av_qc (.invokevirtual 74) 29 2 0 1) 3 cd_29 [.inl (0), .inl k8] (t) 1 [some (.inr (.inr (.inl (some (t))))), some (.inl k8), some (.inl (0))] (ck_20 _ _ rfl) rfl rfl pp_29 rfl rfl rfl (congrArg Prod.fst (co_kt (ib_co E.1))) rfl rfl rfl rfl ?_
          obtain ⟨v21, e22⟩ : ∃ v, u (21 * Int.toNat (k8) + 0) = v := ⟨_, rfl⟩
          have g23 := eb_uv E (21 * Int.toNat (k8) + 0)
          rw [e22] at g23
          refine xc_29 (ib_co E.1) (k8) (by omega) 0 (by omega) rfl ((congrFun (eb_u E) _).trans e22) ?_
          show av_wp _ cd_20 41 [some (.inr (.inr (.inl (some (b))))), some (.inl k7), some (.inl k8), a9] [.inl v21] h _
          refine av_wp_sqF ck_20 1 (pc' := 43) (lv' := [some (.inr (.inr (.inl (some (b))))), some (.inl k7), some (.inl k8), a9]) (st' := [.inl (7), .inl v21]) (h' := h) rfl ?_
          refine wq_k2 (p' := 46) (ck_20 _ _ rfl) rfl ⟨by omega, by omega⟩ ⟨by omega, by omega⟩ (fun c24 => ?_) (fun c25 => ?_)
          · have c24 : v21 ≠ (7) := c24
            refine av_wp_sqF ck_20 2 (pc' := 21) (lv' := [some (.inr (.inr (.inl (some (b))))), some (.inl k7), some (.inl (k8 + (1))), a9]) (st' := []) (h' := h) rfl ?_
            exact I12 _ (by omega) (k7) ((k8 + (1))) (a9) la9 (by rw [show Int.toNat ((k8 + (1))) = Int.toNat k8 + 1 by omega, rpv_n e22 (by omega)]; exact g15) (by omega) (by omega) (by omega) rfl
          · have c25 : v21 = (7) := c25
            refine av_wp_sqF ck_20 1 (pc' := 47) (lv' := [some (.inr (.inr (.inl (some (b))))), some (.inl k7), some (.inl k8), a9]) (st' := [.inr (.inr (.inl (some (b))))]) (h' := h) rfl ?_
            refine wq_gr (p' := 50) (ck_20 _ _ rfl) rfl (congrArg Prod.fst (ib_k0 E.1)) rfl (ib_t E.1) ?_
            refine av_wp_sqF ck_20 2 (pc' := 52) (lv' := [some (.inr (.inr (.inl (some (b))))), some (.inl k7), some (.inl k8), a9]) (st' := [.inl (3), .inl k8, .inr (.inr (.inl (some (t))))]) (h' := h) rfl ?_
            refine wq_cv (p' := 55) (av_qc (.invokevirtual 74) 29 2 0 1) 3 cd_29 [.inl (3), .inl k8] (t) 1 [some (.inr (.inr (.inl (some (t))))), some (.inl k8), some (.inl (3))] (ck_20 _ _ rfl) rfl rfl pp_29 rfl rfl rfl (congrArg Prod.fst (co_kt (ib_co E.1))) rfl rfl rfl rfl ?_
            obtain ⟨v26, e27⟩ : ∃ v, u (21 * Int.toNat (k8) + 3) = v := ⟨_, rfl⟩
            have g28 := eb_uv E (21 * Int.toNat (k8) + 3)
            rw [e27] at g28
            refine xc_29 (ib_co E.1) (k8) (by omega) 3 (by omega) rfl ((congrFun (eb_u E) _).trans e27) ?_
            show av_wp _ cd_20 55 [some (.inr (.inr (.inl (some (b))))), some (.inl k7), some (.inl k8), a9] [.inl v26] h _
            refine av_wp_sqF ck_20 1 (pc' := 56) (lv' := [some (.inr (.inr (.inl (some (b))))), some (.inl k7), some (.inl k8), a9]) (st' := [.inr (.inr (.inl (some (b)))), .inl v26]) (h' := h) rfl ?_
            refine wq_gi (p' := 59) (ck_20 _ _ rfl) rfl (congrArg Prod.fst (ib_k0 E.1)) rfl (eb_y E) ?_
            refine wq_k2 (p' := 62) (ck_20 _ _ rfl) rfl ⟨by omega, by omega⟩ ⟨by omega, by omega⟩ (fun c29 => ?_) (fun c30 => ?_)
            · have c29 : v26 ≠ mo := c29
              refine av_wp_sqF ck_20 2 (pc' := 21) (lv' := [some (.inr (.inr (.inl (some (b))))), some (.inl k7), some (.inl (k8 + (1))), a9]) (st' := []) (h' := h) rfl ?_
              exact I12 _ (by omega) (k7) ((k8 + (1))) (a9) la9 (by rw [show Int.toNat ((k8 + (1))) = Int.toNat k8 + 1 by omega, rpv_m e27 (by omega)]; exact g15) (by omega) (by omega) (by omega) rfl
            · have c30 : v26 = mo := c30
              refine av_wp_sqF ck_20 3 (pc' := 65) (lv' := [some (.inr (.inr (.inl (some (b))))), some (.inl k7), some (.inl k8), a9]) (st' := [.inr (.inr (.inl (some (b)))), .inl k8, .inr (.inr (.inl (some (b))))]) (h' := h) rfl ?_
              refine wq_gr (p' := 68) (ck_20 _ _ rfl) rfl (congrArg Prod.fst (ib_k0 E.1)) rfl (ib_r E.1) ?_
              refine av_wp_sqF ck_20 1 (pc' := 70) (lv' := [some (.inr (.inr (.inl (some (b))))), some (.inl k7), some (.inl k8), a9]) (st' := [.inl (12), .inr (.inr (.inl (some (r)))), .inl k8, .inr (.inr (.inl (some (b))))]) (h' := h) rfl ?_
              obtain ⟨v32, e33⟩ : ∃ v, ro 12 = v := ⟨_, rfl⟩
              have g31 := eb_rv E 12
              rw [e33] at g31
              have g34 := rl_12 R
              rw [e33] at g34
              refine wq_al (p' := 71) (n := 14) (ck_20 _ _ rfl) rfl (ib_kr E.1) (by omega) ((congrFun (eb_ro E) _).trans e33) ?_
              refine av_wp_sqF ck_20 2 (pc' := 73) (lv' := [some (.inr (.inr (.inl (some (b))))), some (.inl k7), some (.inl k8), a9]) (st' := [.inl (v32 - (1)), .inl k8, .inr (.inr (.inl (some (b))))]) (h' := h) rfl ?_
              refine wq_cv (p' := 76) (av_qc (.invokevirtual 115) 6 2 0 0) 3 cd_6 [.inl (v32 - (1)), .inl k8] (b) 0 [some (.inr (.inr (.inl (some (b))))), some (.inl k8), some (.inl (v32 - (1)))] (ck_20 _ _ rfl) rfl rfl pp_6 rfl rfl rfl (congrArg Prod.fst (ib_k0 E.1)) rfl rfl rfl rfl ?_
              refine cx_6 E F (k8) (by omega) ((v32 - (1))) (by omega) ?_
              rw [hof_c (a := a) rfl (by omega)]
              obtain ⟨v35, e36⟩ : ∃ v, hw a (Int.toNat (k8)) (v32 - (1)) = v := ⟨_, rfl⟩
              have g37 := hw_r H (k := Int.toNat (k8)) (by omega) (v32 - (1))
              rw [e36] at g37
              rw [e36]
              show av_wp _ cd_20 76 [some (.inr (.inr (.inl (some (b))))), some (.inl k7), some (.inl k8), a9] [.inl v35] h _
              refine av_wp_sqF ck_20 3 (pc' := 79) (lv' := [some (.inr (.inr (.inl (some (b))))), some (.inl k7), some (.inl k8), some (.inl v35)]) (st' := [.inl (-1), .inl v35]) (h' := h) rfl ?_
              refine wq_k2 (p' := 82) (ck_20 _ _ rfl) rfl ⟨by omega, by omega⟩ ⟨by omega, by omega⟩ (fun c38 => ?_) (fun c39 => ?_)
              · have c38 : v35 ≠ (-1) := c38
                refine av_wp_sqF ck_20 2 (pc' := 88) (lv' := [some (.inr (.inr (.inl (some (b))))), some (.inl k7), some (.inl k8), some (.inl v35)]) (st' := [.inl v35, .inl k7]) (h' := h) rfl ?_
                refine wq_mn (p' := 91) (ck_20 _ _ rfl) rfl rfl (fun _ _ => rfl) rfl (fun v40 e41 e42 => ?_)
                have e42 := e42 ⟨by omega, by omega⟩ ⟨by omega, by omega⟩
                refine av_wp_sqF ck_20 3 (pc' := 21) (lv' := [some (.inr (.inr (.inl (some (b))))), some (.inl v40), some (.inl (k8 + (1))), some (.inl v35)]) (st' := []) (h' := h) rfl ?_
                exact I12 _ (by omega) (v40) ((k8 + (1))) (some (.inl v35)) rfl (by rw [show Int.toNat ((k8 + (1))) = Int.toNat k8 + 1 by omega, rpv_y e22 (by omega) e27 (by omega) (show hw a (Int.toNat k8) (ro 12 - 1) = v35 by rw [e33]; exact e36) (by omega), g15]; unfold mn2; split <;> omega) (by omega) (by omega) (by omega) rfl
              · have c39 : v35 = (-1) := c39
                refine av_wp_sqF ck_20 5 (pc' := 21) (lv' := [some (.inr (.inr (.inl (some (b))))), some (.inl k7), some (.inl (k8 + (1))), some (.inl v35)]) (st' := []) (h' := h) rfl ?_
                exact I12 _ (by omega) (k7) ((k8 + (1))) (some (.inl v35)) rfl (by rw [show Int.toNat ((k8 + (1))) = Int.toNat k8 + 1 by omega, rpv_h (show hw a (Int.toNat k8) (ro 12 - 1) = v35 by rw [e33]; exact e36) (by omega)]; exact g15) (by omega) (by omega) (by omega) rfl
    exact L11 _ ((9999)) ((0)) (none) rfl rfl (by omega) (by omega) (by omega) rfl
  · have c6 : v2 = (0) := c6
    refine av_wp_sqF ck_20 1 (pc' := 11) (lv' := [some (.inr (.inr (.inl (some (b))))), none, none, none]) (st' := [.inr (.inr (.inl (some (b))))]) (h' := h) rfl ?_
    refine wq_gi (p' := 14) (ck_20 _ _ rfl) rfl (congrArg Prod.fst (ib_k0 E.1)) rfl (eb_z E) ?_
    refine av_wp_ret (v := some (.inl ma)) (ck_20 _ _ rfl) rfl rfl ?_
    exact hq _ (by show ma = (if ro 12 = 0 then ma else _); rw [if_pos (e3.trans (by omega))])

set_option maxRecDepth 100000 in
set_option maxHeartbeats 4000000 in
theorem cx_19 {g h : av_H} {b t c s r : Nat} {cb : Int} {u ro : Nat → Int} {a : Nat → Nat → Int} {mb mo ma : Int} (E : EB b t c s r cb u ro a mb mo ma h) (F : FN b g h) (H : HBd s a) (R : RLW ro) (qm : -1 ≤ ma ∧ ma ≤ 9999) (hm : (ma = 9999 ∧ mo = -1) ∨ (ma ≠ 9999 ∧ (0 ≤ mo ∧ mo < (s : Int)))) (w : Int) (qw : 0 ≤ w ∧ w ≤ 2147483647) {Q : Option av_V → av_H → Prop} (hq : ∀ v : Int, v = bev u ro a s (mb, mo, ma) w → Q (some (.inl v)) h) : av_wp none cd_19 0 [some (.inr (.inr (.inl (some (b))))), some (.inl w), none, none] [] h Q := by
  have s12 := co_s12 (ib_co E.1)
  have cbr := co_cbr (ib_co E.1)
  have mbr := eb_xr E
  have mor := eb_yr E
  refine av_wp_sqF ck_19 1 (pc' := 1) (lv' := [some (.inr (.inr (.inl (some (b))))), some (.inl w), none, none]) (st' := [.inr (.inr (.inl (some (b))))]) (h' := h) rfl ?_
  refine wq_cv (p' := 4) (av_qc (.invokevirtual 142) 3 0 0 0) 1 cd_3 [] (b) 0 [some (.inr (.inr (.inl (some (b)))))] (ck_19 _ _ rfl) rfl rfl pp_3 rfl rfl rfl (congrArg Prod.fst (ib_k0 E.1)) rfl rfl rfl rfl ?_
  refine cx_3 E F qm (fun v1 p2 => ?_)
  show av_wp _ cd_19 4 [some (.inr (.inr (.inl (some (b))))), some (.inl w), none, none] [.inl v1] h _
  refine wq_k1 (p' := 7) (ck_19 _ _ rfl) rfl ⟨by omega, by omega⟩ (fun c3 => ?_) (fun c4 => ?_)
  · have c3 : v1 ≠ (0) := c3
    refine av_wp_sqF ck_19 1 (pc' := 10) (lv' := [some (.inr (.inr (.inl (some (b))))), some (.inl w), none, none]) (st' := [.inr (.inr (.inl (some (b))))]) (h' := h) rfl ?_
    refine wq_cv (p' := 13) (av_qc (.invokevirtual 146) 20 0 0 0) 4 cd_20 [] (b) 0 [some (.inr (.inr (.inl (some (b))))), none, none, none] (ck_19 _ _ rfl) rfl rfl pp_20 rfl rfl rfl (congrArg Prod.fst (ib_k0 E.1)) rfl rfl rfl rfl ?_
    refine cx_20 E F H R qm (fun v5 p6 => ?_)
    have g7 := rpx_r (u := u) (ro := ro) (mb := mb) (mo := mo) H qm
    rw [← p6] at g7
    show av_wp _ cd_19 13 [some (.inr (.inr (.inl (some (b))))), some (.inl w), none, none] [.inl v5] h _
    refine av_wp_sqF ck_19 3 (pc' := 18) (lv' := [some (.inr (.inr (.inl (some (b))))), some (.inl w), some (.inl v5), none]) (st' := [.inl (9999), .inl v5]) (h' := h) rfl ?_
    refine wq_k2 (p' := 21) (ck_19 _ _ rfl) rfl ⟨by omega, by omega⟩ ⟨by omega, by omega⟩ (fun c8 => ?_) (fun c9 => ?_)
    · have c8 : v5 = (9999) := c8
      refine av_wp_sqF ck_19 3 (pc' := 40) (lv' := [some (.inr (.inr (.inl (some (b))))), some (.inl w), some (.inl v5), some (.inl (0))]) (st' := [.inr (.inr (.inl (some (b))))]) (h' := h) rfl ?_
      refine wq_gr (p' := 43) (ck_19 _ _ rfl) rfl (congrArg Prod.fst (ib_k0 E.1)) rfl (ib_t E.1) ?_
      refine av_wp_sqF ck_19 1 (pc' := 44) (lv' := [some (.inr (.inr (.inl (some (b))))), some (.inl w), some (.inl v5), some (.inl (0))]) (st' := [.inr (.inr (.inl (some (b)))), .inr (.inr (.inl (some (t))))]) (h' := h) rfl ?_
      refine wq_gi (p' := 47) (ck_19 _ _ rfl) rfl (congrArg Prod.fst (ib_k0 E.1)) rfl (eb_y E) ?_
      refine av_wp_sqF ck_19 3 (pc' := 56) (lv' := [some (.inr (.inr (.inl (some (b))))), some (.inl w), some (.inl v5), some (.inl (0))]) (st' := [.inl (1), .inl mo, .inr (.inr (.inl (some (t))))]) (h' := h) rfl ?_
      refine wq_cv (p' := 59) (av_qc (.invokevirtual 74) 29 2 0 1) 3 cd_29 [.inl (1), .inl mo] (t) 1 [some (.inr (.inr (.inl (some (t))))), some (.inl mo), some (.inl (1))] (ck_19 _ _ rfl) rfl rfl pp_29 rfl rfl rfl (congrArg Prod.fst (co_kt (ib_co E.1))) rfl rfl rfl rfl ?_
      refine xc_29b (ib_co E.1) (mo) (by omega) 1 (by omega) rfl (fun z10 => ?_) (fun z11 z12 v13 e14 => ?_)
      · show av_wp _ cd_19 59 [some (.inr (.inr (.inl (some (b))))), some (.inl w), some (.inl v5), some (.inl (0))] [.inl (-1)] h _
        refine av_wp_ret (v := some (.inl (-1))) (ck_19 _ _ rfl) rfl rfl ?_
        exfalso
        omega
      · rw [eb_u E] at e14
        have g15 := eb_uv E (21 * Int.toNat (mo) + 1)
        rw [e14] at g15
        show av_wp _ cd_19 59 [some (.inr (.inr (.inl (some (b))))), some (.inl w), some (.inl v5), some (.inl (0))] [.inl v13] h _
        refine av_wp_ret (v := some (.inl v13)) (ck_19 _ _ rfl) rfl rfl ?_
        exact hq _ (by show _ = (if ma = 9999 then -1 else if rpx u ro a s (mb, mo, ma) ≠ 9999 ∧ rpx u ro a s (mb, mo, ma) ≤ w ∧ ma ≤ w then u (21 * Int.toNat mo + 2) else u (21 * Int.toNat mo + 1)); rw [if_neg (by omega), ← p6, if_neg (by omega)]; exact e14.symm)
    · have c9 : v5 ≠ (9999) := c9
      refine av_wp_sqF ck_19 3 (pc' := 24) (lv' := [some (.inr (.inr (.inl (some (b))))), some (.inl w), some (.inl v5), none]) (st' := [.inr (.inr (.inl (some (b)))), .inl v5, .inl w]) (h' := h) rfl ?_
      refine wq_gi (p' := 27) (ck_19 _ _ rfl) rfl (congrArg Prod.fst (ib_k0 E.1)) rfl (eb_z E) ?_
      refine wq_mx (p' := 30) (ck_19 _ _ rfl) rfl rfl (fun _ _ => rfl) rfl (fun v16 e17 e18 => ?_)
      have e18 := e18 ⟨by omega, by omega⟩ ⟨by omega, by omega⟩
      refine wq_k2 (p' := 33) (ck_19 _ _ rfl) rfl ⟨by omega, by omega⟩ ⟨by omega, by omega⟩ (fun c19 => ?_) (fun c20 => ?_)
      · have c19 : w < v16 := c19
        refine av_wp_sqF ck_19 3 (pc' := 40) (lv' := [some (.inr (.inr (.inl (some (b))))), some (.inl w), some (.inl v5), some (.inl (0))]) (st' := [.inr (.inr (.inl (some (b))))]) (h' := h) rfl ?_
        refine wq_gr (p' := 43) (ck_19 _ _ rfl) rfl (congrArg Prod.fst (ib_k0 E.1)) rfl (ib_t E.1) ?_
        refine av_wp_sqF ck_19 1 (pc' := 44) (lv' := [some (.inr (.inr (.inl (some (b))))), some (.inl w), some (.inl v5), some (.inl (0))]) (st' := [.inr (.inr (.inl (some (b)))), .inr (.inr (.inl (some (t))))]) (h' := h) rfl ?_
        refine wq_gi (p' := 47) (ck_19 _ _ rfl) rfl (congrArg Prod.fst (ib_k0 E.1)) rfl (eb_y E) ?_
        refine av_wp_sqF ck_19 3 (pc' := 56) (lv' := [some (.inr (.inr (.inl (some (b))))), some (.inl w), some (.inl v5), some (.inl (0))]) (st' := [.inl (1), .inl mo, .inr (.inr (.inl (some (t))))]) (h' := h) rfl ?_
        refine wq_cv (p' := 59) (av_qc (.invokevirtual 74) 29 2 0 1) 3 cd_29 [.inl (1), .inl mo] (t) 1 [some (.inr (.inr (.inl (some (t))))), some (.inl mo), some (.inl (1))] (ck_19 _ _ rfl) rfl rfl pp_29 rfl rfl rfl (congrArg Prod.fst (co_kt (ib_co E.1))) rfl rfl rfl rfl ?_
        refine xc_29b (ib_co E.1) (mo) (by omega) 1 (by omega) rfl (fun z21 => ?_) (fun z22 z23 v24 e25 => ?_)
        · show av_wp _ cd_19 59 [some (.inr (.inr (.inl (some (b))))), some (.inl w), some (.inl v5), some (.inl (0))] [.inl (-1)] h _
          refine av_wp_ret (v := some (.inl (-1))) (ck_19 _ _ rfl) rfl rfl ?_
          exfalso
          omega
        · rw [eb_u E] at e25
          have g26 := eb_uv E (21 * Int.toNat (mo) + 1)
          rw [e25] at g26
          show av_wp _ cd_19 59 [some (.inr (.inr (.inl (some (b))))), some (.inl w), some (.inl v5), some (.inl (0))] [.inl v24] h _
          refine av_wp_ret (v := some (.inl v24)) (ck_19 _ _ rfl) rfl rfl ?_
          exact hq _ (by show _ = (if ma = 9999 then -1 else if rpx u ro a s (mb, mo, ma) ≠ 9999 ∧ rpx u ro a s (mb, mo, ma) ≤ w ∧ ma ≤ w then u (21 * Int.toNat mo + 2) else u (21 * Int.toNat mo + 1)); rw [if_neg (by omega), ← p6, if_neg (by omega)]; exact e25.symm)
      · have c20 : v16 ≤ w := c20
        refine av_wp_sqF ck_19 4 (pc' := 40) (lv' := [some (.inr (.inr (.inl (some (b))))), some (.inl w), some (.inl v5), some (.inl (1))]) (st' := [.inr (.inr (.inl (some (b))))]) (h' := h) rfl ?_
        refine wq_gr (p' := 43) (ck_19 _ _ rfl) rfl (congrArg Prod.fst (ib_k0 E.1)) rfl (ib_t E.1) ?_
        refine av_wp_sqF ck_19 1 (pc' := 44) (lv' := [some (.inr (.inr (.inl (some (b))))), some (.inl w), some (.inl v5), some (.inl (1))]) (st' := [.inr (.inr (.inl (some (b)))), .inr (.inr (.inl (some (t))))]) (h' := h) rfl ?_
        refine wq_gi (p' := 47) (ck_19 _ _ rfl) rfl (congrArg Prod.fst (ib_k0 E.1)) rfl (eb_y E) ?_
        refine av_wp_sqF ck_19 4 (pc' := 56) (lv' := [some (.inr (.inr (.inl (some (b))))), some (.inl w), some (.inl v5), some (.inl (1))]) (st' := [.inl (2), .inl mo, .inr (.inr (.inl (some (t))))]) (h' := h) rfl ?_
        refine wq_cv (p' := 59) (av_qc (.invokevirtual 74) 29 2 0 1) 3 cd_29 [.inl (2), .inl mo] (t) 1 [some (.inr (.inr (.inl (some (t))))), some (.inl mo), some (.inl (2))] (ck_19 _ _ rfl) rfl rfl pp_29 rfl rfl rfl (congrArg Prod.fst (co_kt (ib_co E.1))) rfl rfl rfl rfl ?_
        refine xc_29b (ib_co E.1) (mo) (by omega) 2 (by omega) rfl (fun z27 => ?_) (fun z28 z29 v30 e31 => ?_)
        · show av_wp _ cd_19 59 [some (.inr (.inr (.inl (some (b))))), some (.inl w), some (.inl v5), some (.inl (1))] [.inl (-1)] h _
          refine av_wp_ret (v := some (.inl (-1))) (ck_19 _ _ rfl) rfl rfl ?_
          exfalso
          omega
        · rw [eb_u E] at e31
          have g32 := eb_uv E (21 * Int.toNat (mo) + 2)
          rw [e31] at g32
          show av_wp _ cd_19 59 [some (.inr (.inr (.inl (some (b))))), some (.inl w), some (.inl v5), some (.inl (1))] [.inl v30] h _
          refine av_wp_ret (v := some (.inl v30)) (ck_19 _ _ rfl) rfl rfl ?_
          exact hq _ (by show _ = (if ma = 9999 then -1 else if rpx u ro a s (mb, mo, ma) ≠ 9999 ∧ rpx u ro a s (mb, mo, ma) ≤ w ∧ ma ≤ w then u (21 * Int.toNat mo + 2) else u (21 * Int.toNat mo + 1)); rw [if_neg (by omega), ← p6, if_pos (by omega)]; exact e31.symm)
  · have c4 : v1 = (0) := c4
    refine av_wp_sqF ck_19 1 (pc' := 8) (lv' := [some (.inr (.inr (.inl (some (b))))), some (.inl w), none, none]) (st' := [.inl (-1)]) (h' := h) rfl ?_
    refine av_wp_ret (v := some (.inl (-1))) (ck_19 _ _ rfl) rfl rfl ?_
    exact hq _ (by show (-1 : Int) = (if ma = 9999 then -1 else _); rw [if_pos (by omega)])

set_option maxRecDepth 100000 in
set_option maxHeartbeats 4000000 in
theorem cx_111 {h : av_H} {U : Nat → Nat → Int} {S : Nat → Nat} {n : Int} {sr nd : Nat → Int} (C : CJ U S n sr nd h) (k : Int) (qk : -2147483648 ≤ k ∧ k ≤ 2147483647) (l : Int) (ql : -2147483648 ≤ l ∧ l ≤ 2147483647) (x : Int) (qx : -2147483648 ≤ x ∧ x ≤ 2147483647) (w : Int) (qw : -2147483648 ≤ w ∧ w ≤ 2147483647) (CR : CRT U S n (hF h 3 4) (fun k => hA h (6 + k))) (SU : SUA U S n (hF h 3 4) (fun k => hA h (6 + k)) sr) {Q : Option av_V → av_H → Prop} (hq : ∀ (v : Int) h' sr' nd', CJ U S n sr' nd' h' → FP 35 h h' → SUA U S n (hF h 3 4) (fun k => hA h (6 + k)) sr' → RSP (okx U S n (hF h 3 4) k l x ∧ 0 ≤ w) (-2) (bev (U (Int.toNat k)) (hA h (6 + Int.toNat l)) (arr (U (Int.toNat k)) (hA h (6 + Int.toNat l)) (bxx U S (hA h (6 + Int.toNat l)) (Int.toNat k)) x) (S (Int.toNat k)) (bgx U S (fun k => hA h (6 + k)) k l x) w) v → Q (some (.inl v)) h') : av_wp none cd_111 0 [some (.inr (.inr (.inl (some (0))))), some (.inl k), some (.inl l), some (.inl x), some (.inl w)] [] h Q := by
  have F := FP_rf 35 h
  have nr := C.2.1.2.1
  refine av_wp_sqF ck_111 1 (pc' := 2) (lv' := [some (.inr (.inr (.inl (some (0))))), some (.inl k), some (.inl l), some (.inl x), some (.inl w)]) (st' := [.inl w]) (h' := h) rfl ?_
  refine wq_k1 (p' := 5) (ck_111 _ _ rfl) rfl ⟨by omega, by omega⟩ (fun c1 => ?_) (fun c2 => ?_)
  · have c1 : w < (0) := c1
    refine av_wp_sqF ck_111 1 (pc' := 20) (lv' := [some (.inr (.inr (.inl (some (0))))), some (.inl k), some (.inl l), some (.inl x), some (.inl w)]) (st' := [.inl (-2)]) (h' := h) rfl ?_
    refine av_wp_ret (v := some (.inl (-2))) (ck_111 _ _ rfl) rfl rfl ?_
    exact hq _ h _ _ C F SU (Or.inr ⟨by unfold okx; omega, rfl⟩)
  · have c2 : (0) ≤ w := c2
    refine av_wp_sqF ck_111 1 (pc' := 6) (lv' := [some (.inr (.inr (.inl (some (0))))), some (.inl k), some (.inl l), some (.inl x), some (.inl w)]) (st' := [.inr (.inr (.inl (some (0))))]) (h' := h) rfl ?_
    refine wq_gr (p' := 9) (ck_111 _ _ rfl) rfl (congrArg Prod.fst (ly_k C.1.1 0 rfl)) rfl (ly_g C.1.1 0 5 26 rfl) ?_
    refine av_wp_sqF ck_111 3 (pc' := 12) (lv' := [some (.inr (.inr (.inl (some (0))))), some (.inl k), some (.inl l), some (.inl x), some (.inl w)]) (st' := [.inl x, .inl l, .inl k, .inr (.inr (.inl (some (26))))]) (h' := h) rfl ?_
    refine wq_cv (p' := 15) (av_qc (.invokevirtual 160) 48 3 0 3) 5 cd_48 [.inl x, .inl l, .inl k] (26) 3 [some (.inr (.inr (.inl (some (26))))), some (.inl k), some (.inl l), some (.inl x), none] (ck_111 _ _ rfl) rfl rfl pp_48 rfl rfl rfl (congrArg Prod.fst (ly_k C.1.1 26 rfl)) rfl rfl rfl rfl ?_
    refine cz_48 C (k) (by omega) (l) (by omega) (x) (by omega) CR SU (fun z3 => ?_) (fun z3 z4 z5 h6 r7 n8 t9 c10 a11 m12 m13 m14 C15 F16 U17 E18 Z19 T20 D21 B22 R23 => ?_)
    · show av_wp _ cd_111 15 [some (.inr (.inr (.inl (some (0))))), some (.inl k), some (.inl l), some (.inl x), some (.inl w)] [.inl (0)] h _
      refine av_wp_sqF ck_111 2 (pc' := 20) (lv' := [some (.inr (.inr (.inl (some (0))))), some (.inl k), some (.inl l), some (.inl x), some (.inl w)]) (st' := [.inl (-2)]) (h' := h) rfl ?_
      refine av_wp_ret (v := some (.inl (-2))) (ck_111 _ _ rfl) rfl rfl ?_
      exact hq _ h _ _ C F SU (Or.inr ⟨by unfold okx; omega, rfl⟩)
    · have b26 := bgn_f (u := U (Int.toNat k)) (ro := (hA h (6 + Int.toNat l))) (bar := (brv (U (Int.toNat k)) (srt U S (hA h (6 + Int.toNat l)) (Int.toNat k)))) (s := S (Int.toNat k)) (x := x)
      rw [B22] at b26
      have b26 : (m14 = 9999 ∧ m12 = -1 ∧ m13 = -1) ∨ (m14 < 9999 ∧ (0 ≤ m13 ∧ m13 < (S (Int.toNat k) : Int) ∧ ofv (U (Int.toNat k)) (hA h (6 + Int.toNat l)) (Int.toNat m13) ≠ 0) ∧ (m12 = -1 ∨ (0 ≤ m12 ∧ m12 < (S (Int.toNat k) : Int) ∧ ysv (U (Int.toNat k)) (hA h (6 + Int.toNat l)) (Int.toNat m12) ≠ 0))) := b26
      have g24 : (-1 ≤ m12 ∧ m12 ≤ 11) ∧ (-1 ≤ m13 ∧ m13 ≤ 11) ∧ (-1 ≤ m14 ∧ m14 ≤ 9999) := R23
      have g25 := co_s12 (ib_co E18.1)
      show av_wp _ cd_111 15 [some (.inr (.inr (.inl (some (0))))), some (.inl k), some (.inl l), some (.inl x), some (.inl w)] [.inl (1)] h6 _
      refine av_wp_sqF ck_111 2 (pc' := 22) (lv' := [some (.inr (.inr (.inl (some (0))))), some (.inl k), some (.inl l), some (.inl x), some (.inl w)]) (st' := [.inr (.inr (.inl (some (0))))]) (h' := h6) rfl ?_
      refine wq_gr (p' := 25) (ck_111 _ _ rfl) rfl (congrArg Prod.fst (ly_k C15.1.1 0 rfl)) rfl (ly_g C15.1.1 0 5 26 rfl) ?_
      refine wq_gr (p' := 28) (ck_111 _ _ rfl) rfl (congrArg Prod.fst (ly_k C15.1.1 26 rfl)) rfl (ly_g C15.1.1 26 1 35 rfl) ?_
      refine av_wp_sqF ck_111 1 (pc' := 30) (lv' := [some (.inr (.inr (.inl (some (0))))), some (.inl k), some (.inl l), some (.inl x), some (.inl w)]) (st' := [.inl w, .inr (.inr (.inl (some (35))))]) (h' := h6) rfl ?_
      refine wq_cv (p' := 33) (av_qc (.invokevirtual 219) 19 1 0 0) 4 cd_19 [.inl w] (35) 0 [some (.inr (.inr (.inl (some (35))))), some (.inl w), none, none] (ck_111 _ _ rfl) rfl rfl pp_19 rfl rfl rfl (congrArg Prod.fst (bn_k0 C15.1.1 (Or.inl rfl))) rfl rfl rfl rfl ?_
      have g29 := arr_g (u := U (Int.toNat k)) (ro := (hA h (6 + Int.toNat l))) (bar := bxx U S (hA h (6 + Int.toNat l)) (Int.toNat k)) (by omega) D21.1 T20
      have g29h := HBd_g (CR.1 (Int.toNat k) (by omega)).2.2.2.2.2 D21.1 (by have := cbv_d (U (Int.toNat k)) (S (Int.toNat k)); omega)
      refine cx_19 E18 (FN_rf 35 h6) g29h (CR.2.2.2 l (by omega) (by omega)) (by omega) (b26.elim (fun z => Or.inl ⟨z.1, z.2.2⟩) (fun z => Or.inr ⟨by omega, z.2.1.1, z.2.1.2.1⟩)) (w) (by omega) (fun v27 p28 => ?_)
      show av_wp _ cd_111 33 [some (.inr (.inr (.inl (some (0))))), some (.inl k), some (.inl l), some (.inl x), some (.inl w)] [.inl v27] h6 _
      refine av_wp_ret (v := some (.inl v27)) (ck_111 _ _ rfl) rfl rfl ?_
      exact hq _ h6 _ _ C15 F16 U17 (Or.inl ⟨by unfold okx; omega, by rw [show bgx U S (fun k => hA h (6 + k)) k l x = _ from B22]; exact p28.trans (bev_g g29)⟩)
end
section
/-! WHAT A HAND CAN DO AT AN HOUR, AND UNTIL WHEN -/
/-- what a look answers, as a relation that tells it -/
def RSR (ok : Prop) (d : Int) (P : Int → Prop) (v : Int) : Prop := (ok ∧ P v) ∨ (¬ ok ∧ v = d)
theorem RSR_u {ok : Prop} {d v w : Int} {P : Int → Prop} (u : ∀ v w, P v → P w → v = w) (x : RSR ok d P v) (y : RSR ok d P w) : v = w := by
  rcases x with x | x <;> rcases y with y | y
  · exact u v w x.2 y.2
  · exact absurd x.1 y.1
  · exact absurd y.1 x.1
  · exact x.2.trans y.2.symm
def mx2 (x y : Int) : Int := if x < y then y else x
/-- from when on: the offer is there, its from, whose it is, free from, come -/
def mfr (of f c fr cm hand w : Int) : Int := if of ≠ 0 ∧ f ≠ -1 ∧ c = hand then (if w = 1 then mx2 f fr else if cm = -1 then 9999 else mx2 f cm) else 9999
def mtv (e ma : Int) : Int := mn2 e ma - 1
def MYX (u ro : Nat → Int) (a : Nat → Nat → Int) (s : Nat) (ma hand w : Int) (k : Nat) (t : Int) : Prop := mfr (a 2 k) (o5 ro a k) (u (21 * k + w.toNat)) (fre u ro k) (hw a k 1) hand w ≤ t ∧ t ≤ mtv (eav u ro a s k s).1 ma
def MYE (u ro : Nat → Int) (a : Nat → Nat → Int) (s : Nat) (ma hand w t : Int) : Prop := ∃ k, k < s ∧ MYX u ro a s ma hand w k t
/-- can -/
def CNV (u ro : Nat → Int) (a : Nat → Nat → Int) (s : Nat) (ma hand t v : Int) : Prop := ((v = 1 ∨ v = 3) ↔ MYE u ro a s ma hand 1 t) ∧ ((v = 2 ∨ v = 3) ↔ MYE u ro a s ma hand 2 t) ∧ 0 ≤ v ∧ v ≤ 3
/-- until -/
def UNV (u ro : Nat → Int) (a : Nat → Nat → Int) (s : Nat) (ma hand w v : Int) : Prop := (-1 ≤ v ∧ v ≤ 9998) ∧ (0 ≤ v → MYE u ro a s ma hand w v) ∧ ∀ t, v < t → 0 ≤ t → t ≤ 9998 → ¬ MYE u ro a s ma hand w t
theorem UNV_u {u ro : Nat → Int} {a : Nat → Nat → Int} {s : Nat} {ma hand w v z : Int} (x : UNV u ro a s ma hand w v) (y : UNV u ro a s ma hand w z) : v = z := by
  obtain ⟨x1, x2, x3⟩ := x
  obtain ⟨y1, y2, y3⟩ := y
  rcases (show v = z ∨ v < z ∨ z < v by omega) with e | e | e
  · exact e
  · exact absurd (y2 (by omega)) (x3 z e (by omega) (by omega))
  · exact absurd (x2 (by omega)) (y3 v e (by omega) (by omega))
/-- a bench's rows say so -/
def DDA (u ro : Nat → Int) (a a0 : Nat → Nat → Int) (s : Nat) : Prop := ∀ k, k < s → a 2 k = a0 2 k ∧ a 5 k = o5 ro a0 k ∧ a 6 k = (eav u ro a0 s k s).1 ∧ hw a k 1 = hw a0 k 1
theorem DDA_of {u ro bar : Nat → Int} {s : Nat} {x : Int} {a : Nat → Nat → Int} (hs : s ≤ 12) (T : TKR u ro bar s a) (D : DCD u ro bar s x a) : DDA u ro a (arr u ro bar x) s := fun k hk => by
  have g := arr_g hs D.1 T
  exact ⟨(g k hk).2.1, (D.2 k hk).2.2.1, congrArg Prod.fst (D.2 k hk).2.1, hw_g g hk 1⟩
section
variable {u ro : Nat → Int} {a a0 : Nat → Nat → Int} {s : Nat}
theorem DDA_m (D : DDA u ro a a0 s) {k : Nat} (hk : k < s) {ma hand w t : Int} : (mfr (a 2 k) (a 5 k) (u (21 * k + w.toNat)) (fre u ro k) (hw a k 1) hand w ≤ t ∧ t ≤ mtv (a 6 k) ma) ↔ MYX u ro a0 s ma hand w k t := by
  obtain ⟨d1, d2, d3, d4⟩ := D k hk
  rw [d1, d2, d3, d4]
  exact Iff.rfl
/-- the last hour of those that there are -/
def utv (u ro : Nat → Int) (a : Nat → Nat → Int) (ma hand w : Int) : Nat → Int
  | 0 => -1
  | k + 1 => if mfr (a 2 k) (a 5 k) (u (21 * k + w.toNat)) (fre u ro k) (hw a k 1) hand w ≤ mtv (a 6 k) ma then mx2 (utv u ro a ma hand w k) (mtv (a 6 k) ma) else utv u ro a ma hand w k
end
theorem mtv_le {e ma : Int} (h : ma ≤ 9999) : mtv e ma ≤ 9998 := by
  unfold mtv mn2
  split <;> omega
theorem mfr_0 {of f c fr cm hand w : Int} (hf : -1 ≤ f) : 0 ≤ mfr of f c fr cm hand w := by
  unfold mfr mx2
  (repeat' split) <;> omega
theorem utv_u {u ro : Nat → Int} {a a0 : Nat → Nat → Int} {s : Nat} {ma hand w : Int} (D : DDA u ro a a0 s) (hm : ma ≤ 9999) (h5 : ∀ k, k < s → -1 ≤ a 5 k) : UNV u ro a0 s ma hand w (utv u ro a ma hand w s) := by
  have key : ∀ k, k ≤ s → (-1 ≤ utv u ro a ma hand w k ∧ utv u ro a ma hand w k ≤ 9998) ∧ (0 ≤ utv u ro a ma hand w k → ∃ q, q < k ∧ MYX u ro a0 s ma hand w q (utv u ro a ma hand w k)) ∧ ∀ t, utv u ro a ma hand w k < t → ∀ q, q < k → ¬ MYX u ro a0 s ma hand w q t := by
    intro k
    induction k with
    | zero => intro _; exact ⟨⟨by show (-1 : Int) ≤ -1; omega, by show (-1 : Int) ≤ 9998; omega⟩, fun z => by have z : (0 : Int) ≤ -1 := z; omega, fun t _ q hq => by omega⟩
    | succ k ih =>
      intro hk
      obtain ⟨i1, i2, i3⟩ := ih (by omega)
      have dm := fun t => DDA_m D (k := k) (by omega) (ma := ma) (hand := hand) (w := w) (t := t)
      have f0 := mfr_0 (of := a 2 k) (c := u (21 * k + w.toNat)) (fr := fre u ro k) (cm := hw a k 1) (hand := hand) (w := w) (h5 k (by omega))
      have l := mtv_le (e := a 6 k) hm
      have e : utv u ro a ma hand w (k + 1) = if mfr (a 2 k) (a 5 k) (u (21 * k + w.toNat)) (fre u ro k) (hw a k 1) hand w ≤ mtv (a 6 k) ma then mx2 (utv u ro a ma hand w k) (mtv (a 6 k) ma) else utv u ro a ma hand w k := rfl
      rw [e]
      generalize mfr (a 2 k) (a 5 k) (u (21 * k + w.toNat)) (fre u ro k) (hw a k 1) hand w = F at dm f0
      generalize mtv (a 6 k) ma = T at dm l
      generalize utv u ro a ma hand w k = V at i1 i2 i3
      split
      · next c =>
        unfold mx2
        split
        · next d =>
          refine ⟨by omega, fun _ => ⟨k, by omega, (dm T).mp ⟨c, Int.le_refl T⟩⟩, fun t ht q hq => ?_⟩
          by_cases e : q = k
          · subst e
            exact fun z => by have := (dm t).mpr z; omega
          · exact i3 t (by omega) q (by omega)
        · next d =>
          refine ⟨i1, fun z => ?_, fun t ht q hq => ?_⟩
          · obtain ⟨q, q1, q2⟩ := i2 z
            exact ⟨q, by omega, q2⟩
          · by_cases e : q = k
            · subst e
              exact fun z => by have := (dm t).mpr z; omega
            · exact i3 t ht q (by omega)
      · next c =>
        refine ⟨i1, fun z => ?_, fun t ht q hq => ?_⟩
        · obtain ⟨q, q1, q2⟩ := i2 z
          exact ⟨q, by omega, q2⟩
        · by_cases e : q = k
          · subst e
            exact fun z => by have := (dm t).mpr z; omega
          · exact i3 t ht q (by omega)
  obtain ⟨k1, k2, k3⟩ := key s (Nat.le_refl s)
  exact ⟨k1, k2, fun t h1 _ _ z => by
    obtain ⟨q, q1, q2⟩ := z
    exact k3 t h1 q q1 q2⟩
theorem utv_n {u ro : Nat → Int} {a : Nat → Nat → Int} {ma hand w x y : Int} {k : Nat} (e1 : x = mfr (a 2 k) (a 5 k) (u (21 * k + w.toNat)) (fre u ro k) (hw a k 1) hand w) (e2 : y = mtv (a 6 k) ma) (c : y < x) : utv u ro a ma hand w (k + 1) = utv u ro a ma hand w k := by
  have h : utv u ro a ma hand w (k + 1) = if mfr (a 2 k) (a 5 k) (u (21 * k + w.toNat)) (fre u ro k) (hw a k 1) hand w ≤ mtv (a 6 k) ma then mx2 (utv u ro a ma hand w k) (mtv (a 6 k) ma) else utv u ro a ma hand w k := rfl
  rw [h, ← e1, ← e2, if_neg (by omega)]
theorem utv_y {u ro : Nat → Int} {a : Nat → Nat → Int} {ma hand w x y : Int} {k : Nat} (e1 : x = mfr (a 2 k) (a 5 k) (u (21 * k + w.toNat)) (fre u ro k) (hw a k 1) hand w) (e2 : y = mtv (a 6 k) ma) (c : x ≤ y) : utv u ro a ma hand w (k + 1) = mx2 (utv u ro a ma hand w k) y := by
  have h : utv u ro a ma hand w (k + 1) = if mfr (a 2 k) (a 5 k) (u (21 * k + w.toNat)) (fre u ro k) (hw a k 1) hand w ≤ mtv (a 6 k) ma then mx2 (utv u ro a ma hand w k) (mtv (a 6 k) ma) else utv u ro a ma hand w k := rfl
  rw [h, ← e1, ← e2, if_pos c]
theorem CNV_of {u ro : Nat → Int} {a : Nat → Nat → Int} {s : Nat} {ma hand t v x y : Int} (p : (x = 1 ∧ MYE u ro a s ma hand 1 t) ∨ (x = 0 ∧ ¬ MYE u ro a s ma hand 1 t)) (q : (y = 1 ∧ MYE u ro a s ma hand 2 t) ∨ (y = 0 ∧ ¬ MYE u ro a s ma hand 2 t)) (e : v = x + 2 * y) : CNV u ro a s ma hand t v := by
  unfold CNV
  generalize MYE u ro a s ma hand 1 t = A at p ⊢
  generalize MYE u ro a s ma hand 2 t = B at q ⊢
  rcases p with p | p <;> rcases q with q | q
  · exact ⟨⟨fun _ => p.2, fun _ => by omega⟩, ⟨fun _ => q.2, fun _ => by omega⟩, by omega, by omega⟩
  · exact ⟨⟨fun _ => p.2, fun _ => by omega⟩, ⟨fun z => by omega, fun z => absurd z q.2⟩, by omega, by omega⟩
  · exact ⟨⟨fun z => by omega, fun z => absurd z p.2⟩, ⟨fun _ => q.2, fun _ => by omega⟩, by omega, by omega⟩
  · exact ⟨⟨fun z => by omega, fun z => absurd z p.2⟩, ⟨fun z => by omega, fun z => absurd z q.2⟩, by omega, by omega⟩
/-! the reference asks each offer -/
section
variable {u ro : Nat → Int} {a : Nat → Nat → Int} {s : Nat} {ma hand t : Int} {k : Nat}
theorem my1 (ht : 0 ≤ t ∧ t ≤ 9998) (hr : 0 ≤ ro 6 ∧ ro 6 ≤ 1) (h5 : -1 ≤ o5 ro a k) : MYX u ro a s ma hand 1 k t ↔ (a 2 k ≠ 0 ∧ o5 ro a k ≠ -1 ∧ u (21 * k + 1) = hand ∧ o5 ro a k ≤ t ∧ (u (21 * k + 5) = -1 ∨ ro 6 = 0 ∨ u (21 * k + 5) < t) ∧ t < (eav u ro a s k s).1 ∧ t < ma) := by
  show (mfr (a 2 k) (o5 ro a k) (u (21 * k + 1)) (fre u ro k) (hw a k 1) hand 1 ≤ t ∧ t ≤ mtv (eav u ro a s k s).1 ma) ↔ _
  unfold mfr mx2 fre mtv mn2
  generalize o5 ro a k = f at h5 ⊢
  generalize (eav u ro a s k s).1 = e
  generalize u (21 * k + 1) = c
  generalize u (21 * k + 5) = o
  generalize a 2 k = b
  generalize ro 6 = r at hr ⊢
  rw [if_pos (show (1 : Int) = 1 from rfl)]
  by_cases c1 : b ≠ 0 ∧ f ≠ -1 ∧ c = hand
  · rw [if_pos c1]
    by_cases c2 : o ≠ -1 ∧ r = 1
    · rw [if_pos c2]
      (repeat' split) <;> omega
    · rw [if_neg c2]
      (repeat' split) <;> omega
  · rw [if_neg c1]
    (repeat' split) <;> omega
theorem my2 (ht : 0 ≤ t ∧ t ≤ 9998) (h5 : -1 ≤ o5 ro a k) : MYX u ro a s ma hand 2 k t ↔ (a 2 k ≠ 0 ∧ o5 ro a k ≠ -1 ∧ u (21 * k + 2) = hand ∧ o5 ro a k ≤ t ∧ hw a k 1 ≠ -1 ∧ hw a k 1 ≤ t ∧ t < (eav u ro a s k s).1 ∧ t < ma) := by
  show (mfr (a 2 k) (o5 ro a k) (u (21 * k + 2)) (fre u ro k) (hw a k 1) hand 2 ≤ t ∧ t ≤ mtv (eav u ro a s k s).1 ma) ↔ _
  unfold mfr mx2 mtv mn2
  generalize o5 ro a k = f at h5 ⊢
  generalize (eav u ro a s k s).1 = e
  generalize u (21 * k + 2) = c
  generalize hw a k 1 = o
  generalize a 2 k = b
  generalize fre u ro k = r
  rw [if_neg (show ¬ (2 : Int) = 1 by decide)]
  by_cases c1 : b ≠ 0 ∧ f ≠ -1 ∧ c = hand
  · rw [if_pos c1]
    (repeat' split) <;> omega
  · rw [if_neg c1]
    (repeat' split) <;> omega
def CNI (u ro : Nat → Int) (a : Nat → Nat → Int) (s : Nat) (ma hand t : Int) (k : Nat) (v : Int) : Prop := ((v = 1 ∨ v = 3) ↔ ∃ q, q < k ∧ MYX u ro a s ma hand 1 q t) ∧ ((v = 2 ∨ v = 3) ↔ ∃ q, q < k ∧ MYX u ro a s ma hand 2 q t) ∧ 0 ≤ v ∧ v ≤ 3
theorem CNI_0 : CNI u ro a s ma hand t 0 0 := ⟨⟨fun z => by omega, fun ⟨q, h, _⟩ => by omega⟩, ⟨fun z => by omega, fun ⟨q, h, _⟩ => by omega⟩, by omega, by omega⟩
theorem ex_s {P : Nat → Prop} {A : Prop} (h : A ↔ ∃ q, q < k ∧ P q) : (A ∨ P k) ↔ ∃ q, q < k + 1 ∧ P q := by
  rw [h]
  constructor
  · rintro (⟨q, q1, q2⟩ | z)
    · exact ⟨q, by omega, q2⟩
    · exact ⟨k, by omega, z⟩
  · rintro ⟨q, q1, q2⟩
    by_cases e : q = k
    · rw [e] at q2
      exact Or.inr q2
    · exact Or.inl ⟨q, by omega, q2⟩
theorem CNI_s {v v' : Int} {P1 P2 : Prop} (x : CNI u ro a s ma hand t k v) (a1 : MYX u ro a s ma hand 1 k t ↔ P1) (a2 : MYX u ro a s ma hand 2 k t ↔ P2) (h1 : (v' = 1 ∨ v' = 3) ↔ ((v = 1 ∨ v = 3) ∨ P1)) (h2 : (v' = 2 ∨ v' = 3) ↔ ((v = 2 ∨ v = 3) ∨ P2)) (h3 : 0 ≤ v' ∧ v' ≤ 3) : CNI u ro a s ma hand t (k + 1) v' := by
  refine ⟨?_, ?_, h3⟩
  · rw [h1, ← a1]
    exact ex_s x.1
  · rw [h2, ← a2]
    exact ex_s x.2.1
/-- no offer is open behind the bargain -/
theorem CNV_9 (h : ma ≤ t) : CNV u ro a s ma hand t 0 := by
  have n : ∀ w, ¬ MYE u ro a s ma hand w t := fun w ⟨q, _, z⟩ => by
    have := z.2
    unfold mtv mn2 at this
    split at this <;> omega
  exact ⟨⟨fun z => by omega, fun z => absurd z (n 1)⟩, ⟨fun z => by omega, fun z => absurd z (n 2)⟩, by omega, by omega⟩
end
theorem or_1 {x : Int} (h : 0 ≤ x ∧ x ≤ 3) : (0 ≤ av_or x (1) ∧ av_or x (1) ≤ 3) ∧ (((x = 0 ∨ x = 2) ∧ av_or x (1) = x + 1) ∨ ((x = 1 ∨ x = 3) ∧ av_or x (1) = x)) := by
  rcases (show x = 0 ∨ x = 1 ∨ x = 2 ∨ x = 3 by omega) with e | e | e | e <;> subst e <;> decide +kernel
theorem or_2 {x : Int} (h : 0 ≤ x ∧ x ≤ 3) : (0 ≤ av_or x (2) ∧ av_or x (2) ≤ 3) ∧ (((x = 0 ∨ x = 1) ∧ av_or x (2) = x + 2) ∨ ((x = 2 ∨ x = 3) ∧ av_or x (2) = x)) := by
  rcases (show x = 0 ∨ x = 1 ∨ x = 2 ∨ x = 3 by omega) with e | e | e | e <;> subst e <;> decide +kernel
theorem and_w {v w : Int} (hv : 0 ≤ v ∧ v ≤ 3) (hw : 1 ≤ w ∧ w ≤ 2) : (0 ≤ av_and v w ∧ av_and v w ≤ 2) ∧ ((w = 1 ∧ (v = 1 ∨ v = 3) ∧ av_and v w ≠ 0) ∨ (w = 1 ∧ (v = 0 ∨ v = 2) ∧ av_and v w = 0) ∨ (w = 2 ∧ (v = 2 ∨ v = 3) ∧ av_and v w ≠ 0) ∨ (w = 2 ∧ (v = 0 ∨ v = 1) ∧ av_and v w = 0)) := by
  rcases (show v = 0 ∨ v = 1 ∨ v = 2 ∨ v = 3 by omega) with e | e | e | e <;> subst e <;> rcases (show w = 1 ∨ w = 2 by omega) with d | d <;> subst d <;> decide +kernel
theorem mfr_b {of f c fr cm hand w : Int} (hf : -1 ≤ f ∧ f ≤ 9999) (hfr : 0 ≤ fr ∧ fr ≤ 100001) (hc : -1 ≤ cm ∧ cm ≤ 5000) : -1 ≤ mfr of f c fr cm hand w ∧ mfr of f c fr cm hand w ≤ 100001 := by
  unfold mfr mx2
  (repeat' split) <;> omega
theorem mtv_b {e ma : Int} (he : -1 ≤ e ∧ e ≤ 9999) (qm : -1 ≤ ma ∧ ma ≤ 9999) : -2 ≤ mtv e ma ∧ mtv e ma ≤ 9998 := by
  unfold mtv mn2
  split <;> omega
theorem opR_d {f e y v : Int} (p : v = opR f e y) : (v = 1 ∧ 0 ≤ f ∧ f ≤ y ∧ y < e) ∨ (v = 0 ∧ (f < 0 ∨ y < f ∨ e ≤ y)) := by
  unfold opR at p
  split at p <;> omega
theorem cnv_n {u ro : Nat → Int} {a : Nat → Nat → Int} {s : Nat} {ma hand t v w : Int} (x : CNV u ro a s ma hand t v) (h : (w = 1 ∧ v ≠ 1 ∧ v ≠ 3) ∨ (w = 2 ∧ v ≠ 2 ∧ v ≠ 3)) : ¬ MYE u ro a s ma hand w t := fun z => by
  rcases h with h | h
  · rw [h.1] at z
    have := x.1.mpr z
    omega
  · rw [h.1] at z
    have := x.2.1.mpr z
    omega
theorem cnv_y {u ro : Nat → Int} {a : Nat → Nat → Int} {s : Nat} {ma hand t v w : Int} (x : CNV u ro a s ma hand t v) (h : (w = 1 ∧ (v = 1 ∨ v = 3)) ∨ (w = 2 ∧ (v = 2 ∨ v = 3))) : MYE u ro a s ma hand w t := by
  rcases h with h | h
  · rw [h.1]
    exact x.1.mp h.2
  · rw [h.1]
    exact x.2.1.mp h.2
end
