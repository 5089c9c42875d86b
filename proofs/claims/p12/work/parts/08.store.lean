/-! ONE STEP: stores -/
section AVP
variable {p : Program} {l : Launch} {e : Env} {R : Room} {s : State} {m : MethodId} {args : Array Value} {below : List Frame} {meth : Method} {c : Code} {Q : State → Prop}
variable {a0 : Array Value} {s0 : State} {D : va_G} {TY : Nat → ClassId} {kr : Nat → Nat} {sc : av_Sr} {own nL : Nat} {cc : ByteArray} {ini : Bool} {h0 hf h h' : av_H} {pc pc' : Nat} {lv lv' : av_L} {st st' : List av_V}

theorem av_u2_ne {α : Type} {f : Nat → Nat → α} {i j a : Nat} {v : α} (h : a ≠ i) : av_u2 f i j v a = f a := by
  funext b
  simp [av_u2, h]
theorem av_u2_self {α : Type} {f : Nat → Nat → α} {i j : Nat} {v : α} : av_u2 f i j v i j = v := by simp [av_u2]
theorem av_u2_oth {α : Type} {f : Nat → Nat → α} {i j b : Nat} {v : α} (h : b ≠ j) : av_u2 f i j v i b = f i b := by simp [av_u2, h]
theorem av_u1_ne {α : Type} {f : Nat → α} {i a : Nat} {v : α} (h : a ≠ i) : av_u1 f i v a = f a := by simp [av_u1, h]
theorem av_u1_self {α : Type} {f : Nat → α} {i : Nat} {v : α} : av_u1 f i v i = v := by simp [av_u1]
theorem av_locs {locs : List Loc} {lc : Loc} {z o : Nat} (hl : ∀ q ∈ locs, z ≤ q.base) (hb : lc.base = z + o) : ∀ q ∈ locs ++ [lc], z ≤ q.base := by
  intro q hq
  rcases List.mem_append.mp hq with hq | hq
  · exact hl q hq
  · rw [List.mem_singleton.mp hq, hb]
    omega
theorem av_tg1 {ty : FieldType} (h : av_tg ty = 1) : ty = .long := by cases ty <;> first | rfl | cases h
theorem av_tg3 {ty : FieldType} (h : av_tg ty = 3) : ty = .boolean := by cases ty <;> first | rfl | cases h
theorem av_tg2 {ty : FieldType} (h : av_tg ty = 2) (v : Option Nat) : narrow ty (va_rf v) = va_rf v ∧ fits ty (va_rf v) = true := by
  cases ty <;> first | (cases v <;> exact ⟨rfl, rfl⟩) | cases h
theorem av_bool {x : Int} (h : x = 0 ∨ x = 1) : narrow .boolean (.int (Int32.ofInt x)) = .int (Int32.ofInt x) ∧ fits .boolean (.int (Int32.ofInt x)) = true := by
  rcases h with rfl | rfl
  · exact ⟨by decide, by decide⟩
  · exact ⟨by decide, by decide⟩
/-- the object's cell behind a store into its number field k -/
theorem av_at_putI {H1 : Heap} {z o ci k : Nat} {x : Int} (hci : ci < 9) (ho : (h.2.2.1 o).1 = ci) (hv : av_tg (av_ty ci k) ≠ 2) (hob : t_OB (z + o) (D.1 ci) (av_N ci) (D.2 ci) H1 (updV (fun j => av_fv z h (av_ty ci j) o j) k (match av_tg (av_ty ci k) with
    | 1 => .long (Int64.ofInt x)
    | _ => .int (Int32.ofInt x)))) : av_at z D TY (h.1, h.2.1, h.2.2.1, h.2.2.2.1, av_u2 h.2.2.2.2.1 o k x, h.2.2.2.2.2) o H1 := by
  unfold av_at
  dsimp only
  rw [if_pos (by rw [ho]; exact hci), ho]
  refine hob.to (fun j _ => ?_)
  by_cases e : j = k
  · subst e
    simp only [updV, if_pos]
    unfold av_fv
    simp only [av_u2_self]
    generalize av_tg (av_ty ci j) = tg at hv
    rcases tg with _ | _ | _ | tg
    · rfl
    · rfl
    · exact absurd rfl hv
    · rfl
  · simp only [updV, if_neg e]
    unfold av_fv
    simp only [av_u2_oth e]
theorem av_at_putG {H1 : Heap} {z o ci k : Nat} {v : Option Nat} (hci : ci < 9) (ho : (h.2.2.1 o).1 = ci) (hv : av_tg (av_ty ci k) = 2) (hob : t_OB (z + o) (D.1 ci) (av_N ci) (D.2 ci) H1 (updV (fun j => av_fv z h (av_ty ci j) o j) k (va_rf (v.map (fun q => z + q))))) : av_at z D TY (h.1, h.2.1, h.2.2.1, h.2.2.2.1, h.2.2.2.2.1, av_u2 h.2.2.2.2.2.1 o k v, h.2.2.2.2.2.2) o H1 := by
  unfold av_at
  dsimp only
  rw [if_pos (by rw [ho]; exact hci), ho]
  refine hob.to (fun j _ => ?_)
  by_cases e : j = k
  · subst e
    simp only [updV, if_pos]
    unfold av_fv
    simp only [av_u2_self, hv]
  · simp only [updV, if_neg e]
    unfold av_fv
    simp only [av_u2_oth e]
theorem av_s_putf {x : av_E} {idx : Nat} (C : av_Cx p R s m meth c a0 s0 D TY own nL cc ini h0 hf) (hd : decode cc pc = .ok (.putfield idx, 3)) (hci : x.2.2.1 < 9) (hk : x.2.2.2.1 < av_N x.2.2.1) (ht : x.2.2.2.2.1 = av_tg (av_ty x.2.2.1 x.2.2.2.1)) (ht0 : x.2.2.2.2.1 = 0 → av_ty x.2.2.1 x.2.2.2.1 = .int) (hlk : av_FL own idx x.2.2.1 x.2.2.2.1)
    (hfi : (av_T x.2.2.1 x.2.2.2.1).2.2.2 = false ∨ (own = x.2.2.1 ∧ (av_T x.2.2.1 x.2.2.2.1).1 = av_cn x.2.2.1 ∧ ini = true ∧ Cond.fieldLink (av_cn own) idx (av_T x.2.2.1 x.2.2.2.1).1 (av_T x.2.2.1 x.2.2.2.1).2.1 (av_T x.2.2.1 x.2.2.2.1).2.2.1 ∈ lw_tbl))
    (hs : av_putf x pc lv st h = some (pc', lv', st', h')) (k : av_W p l e R s m args below meth c Q s0 D TY kr sc nL h0 pc' lv' st' h') : av_W p l e R s m args below meth c Q s0 D TY kr sc nL h0 pc lv st h := by
  intro H locs ls hR hl hL h1 h2
  unfold av_putf at hs
  split at hs
  · next tg st9 v o r et =>
    split at hs
    · next hc =>
      cases hs
      have ety := ht0 et
      refine av_put C hd hci hk hlk hfi (by rw [ety]; rfl) (by rw [ety]; rfl) hc hR (fun H1 lc e1 e2 e3 e4 => ?_)
      refine k H1 (locs ++ [lc]) ls (av_R_upd hR e1 e2 rfl rfl rfl (fun k hk => ⟨rfl, av_u2_ne hk, rfl, rfl⟩) (av_at_putI hci hc.2 (by rw [← ht, et]; decide) ?_)) (av_locs hl e4) hL h1 h2
      rw [← ht, et]
      exact e3
    · cases hs
  · next tg st9 v o r et =>
    split at hs
    · next hc =>
      cases hs
      have ety := av_tg1 (ht.symm.trans et)
      refine av_put C hd hci hk hlk hfi (by rw [ety]; rfl) (by rw [ety]; rfl) hc hR (fun H1 lc e1 e2 e3 e4 => ?_)
      refine k H1 (locs ++ [lc]) ls (av_R_upd hR e1 e2 rfl rfl rfl (fun k hk => ⟨rfl, av_u2_ne hk, rfl, rfl⟩) (av_at_putI hci hc.2 (by rw [← ht, et]; decide) ?_)) (av_locs hl e4) hL h1 h2
      rw [← ht, et]
      exact e3
    · cases hs
  · next tg st9 v o r et =>
    split at hs
    · next hc =>
      cases hs
      have ety := av_tg2 (ht.symm.trans et)
      refine av_put C hd hci hk hlk hfi (ety _).1 (ety _).2 hc hR (fun H1 lc e1 e2 e3 e4 => ?_)
      exact k H1 (locs ++ [lc]) ls (av_R_upd hR e1 e2 rfl rfl rfl (fun k hk => ⟨rfl, rfl, av_u2_ne hk, rfl⟩) (av_at_putG hci hc.2 (ht.symm.trans et) e3)) (av_locs hl e4) hL h1 h2
    · cases hs
  · next tg st9 v o r et =>
    split at hs
    · next hc =>
      cases hs
      have ety := av_tg3 (ht.symm.trans et)
      refine av_put C hd hci hk hlk hfi (by rw [ety]; exact (av_bool hc.2).1) (by rw [ety]; exact (av_bool hc.2).2) hc.1 hR (fun H1 lc e1 e2 e3 e4 => ?_)
      refine k H1 (locs ++ [lc]) ls (av_R_upd hR e1 e2 rfl rfl rfl (fun k hk => ⟨rfl, av_u2_ne hk, rfl, rfl⟩) (av_at_putI hci hc.1.2 (by rw [← ht, et]; decide) ?_)) (av_locs hl e4) hL h1 h2
      rw [← ht, et]
      exact e3
    · cases hs
  · cases hs
/-- an array's cell -/
theorem av_arrN {H : Heap} {o k : Nat} (hR : av_R s0 D TY sc h H) (ho : o < h.1) (hk : (h.2.2.1 o).1 = k) (h9 : 9 ≤ k) (h30 : k < 30) : H[s0.heap.size + o]? = some (arrV (TY k) (h.2.2.1 o).2 (fun j => .int (Int32.ofInt (h.2.2.2.1 o j)))) := by
  have hat := hR.2.2.2 o ho
  unfold av_at at hat
  rw [if_neg (by omega), if_pos (by omega), hk] at hat
  exact hat
theorem av_arrR {H : Heap} {o k : Nat} (hR : av_R s0 D TY sc h H) (ho : o < h.1) (hk : (h.2.2.1 o).1 = k) (h30 : 30 ≤ k) : H[s0.heap.size + o]? = some (arrV (TY k) (h.2.2.1 o).2 (fun j => va_rf ((h.2.2.2.2.2.2.1 o j).map (fun q => s0.heap.size + q)))) := by
  have hat := hR.2.2.2 o ho
  unfold av_at at hat
  rw [if_neg (by omega), if_neg (by omega), hk] at hat
  exact hat
theorem av_at_setA {H1 : Heap} {z o i : Nat} {x : Int} {k : Nat} (hk : (h.2.2.1 o).1 = k) (h9 : 9 ≤ k) (h30 : k < 30) (hc : H1[z + o]? = some ((arrV (TY k) (h.2.2.1 o).2 (fun j => .int (Int32.ofInt (h.2.2.2.1 o j)))).setSlot i (.int (Int32.ofInt x)))) : av_at z D TY (h.1, h.2.1, h.2.2.1, av_u2 h.2.2.2.1 o i x, h.2.2.2.2) o H1 := by
  unfold av_at
  dsimp only
  rw [if_neg (by omega), if_pos (by omega), hc, arrV_store, hk]
  congr 2
  funext j
  by_cases e : j = i
  · subst e
    simp [updV, av_u2_self]
  · simp [updV, e, av_u2_oth e]
theorem av_at_setR {H1 : Heap} {z o i : Nat} {v : Option Nat} {k : Nat} (hk : (h.2.2.1 o).1 = k) (h30 : 30 ≤ k) (hc : H1[z + o]? = some ((arrV (TY k) (h.2.2.1 o).2 (fun j => va_rf ((h.2.2.2.2.2.2.1 o j).map (fun q => z + q)))).setSlot i (va_rf (v.map (fun q => z + q))))) : av_at z D TY (h.1, h.2.1, h.2.2.1, h.2.2.2.1, h.2.2.2.2.1, h.2.2.2.2.2.1, av_u2 h.2.2.2.2.2.2.1 o i v, h.2.2.2.2.2.2.2) o H1 := by
  unfold av_at
  dsimp only
  rw [if_neg (by omega), if_neg (by omega), hc, arrV_store, hk]
  congr 2
  funext j
  by_cases e : j = i
  · subst e
    simp [updV, av_u2_self]
  · simp [updV, e, av_u2_oth e]
theorem av_s_iast (C : av_Cx p R s m meth c a0 s0 D TY own nL cc ini h0 hf) (hd : decode cc pc = .ok (.iastore, 1)) (hs : av_iast pc lv st h = some (pc', lv', st', h')) (k : av_W p l e R s m args below meth c Q s0 D TY kr sc nL h0 pc' lv' st' h') : av_W p l e R s m args below meth c Q s0 D TY kr sc nL h0 pc lv st h := by
  intro H locs ls hR hl hL h1 h2
  unfold av_iast at hs
  split at hs
  · next x i o r =>
    split at hs
    · next hc =>
      cases hs
      obtain ⟨hin, hlt⟩ := av_inP hc.2
      have hcell := av_arrN hR hc.1.1 hc.1.2 (by omega) (by omega)
      refine W.iast C.1 C.2.1 hcell ((av_ka C (k := 20) (by decide)).1 _ _) (fun q => by cases q) (by rw [arrV_size]; exact hin) rfl rfl hd (fun H' e1 e2 e3 => ?_)
      rw [av_nat] at e1 ⊢
      exact k H' _ ls (av_R_upd hR e2 e3 rfl rfl rfl (fun k hk => ⟨av_u2_ne hk, rfl, rfl, rfl⟩) (av_at_setA hc.1.2 (by omega) (by omega) e1)) (av_locs hl rfl) hL h1 h2
    · cases hs
  · cases hs
theorem av_s_bast (C : av_Cx p R s m meth c a0 s0 D TY own nL cc ini h0 hf) (hd : decode cc pc = .ok (.bastore, 1)) (hs : av_bast pc lv st h = some (pc', lv', st', h')) (k : av_W p l e R s m args below meth c Q s0 D TY kr sc nL h0 pc' lv' st' h') : av_W p l e R s m args below meth c Q s0 D TY kr sc nL h0 pc lv st h := by
  intro H locs ls hR hl hL h1 h2
  unfold av_bast at hs
  split at hs
  · next x i o r =>
    split at hs
    · next hc =>
      cases hs
      obtain ⟨hin, hlt⟩ := av_inP hc.2
      have hcell := av_arrN hR hc.1.1 hc.1.2 (by omega) (by omega)
      refine W.bast C.1 C.2.1 hcell ((av_ka C (k := 21) (by decide)).1 _ _) (fun q => by cases q) (by rw [arrV_size]; exact hin) rfl rfl hd (fun H' e1 e2 e3 => ?_)
      have e1 : H'[s0.heap.size + o]? = some ((arrV (TY 21) (h.2.2.1 o).2 (fun j => .int (Int32.ofInt (h.2.2.2.1 o j)))).setSlot (av_w i).toNat (.int (Int32.ofInt (av_b x)))) := by
        rw [e1, av_nat, av_byte]
        rfl
      rw [av_nat]
      exact k H' _ ls (av_R_upd hR e2 e3 rfl rfl rfl (fun k hk => ⟨av_u2_ne hk, rfl, rfl, rfl⟩) (av_at_setA hc.1.2 (by omega) (by omega) e1)) (av_locs hl rfl) hL h1 h2
    · split at hs
      · next hc =>
        cases hs
        obtain ⟨hin, hlt⟩ := av_inP hc.2.1
        have hcell := av_arrN hR hc.1.1 hc.1.2 (by omega) (by omega)
        refine W.zast C.1 C.2.1 hcell ((av_ka C (k := 22) (by decide)).1 _ _) (fun q => by cases q) (by rw [arrV_size]; exact hin) rfl rfl hd (fun H' e1 e2 e3 => ?_)
        have e1 : H'[s0.heap.size + o]? = some ((arrV (TY 22) (h.2.2.1 o).2 (fun j => .int (Int32.ofInt (h.2.2.2.1 o j)))).setSlot (av_w i).toNat (.int (Int32.ofInt x))) := by
          rw [e1, av_nat]
          rcases hc.2.2 with rfl | rfl <;> rfl
        rw [av_nat]
        exact k H' _ ls (av_R_upd hR e2 e3 rfl rfl rfl (fun k hk => ⟨av_u2_ne hk, rfl, rfl, rfl⟩) (av_at_setA hc.1.2 (by omega) (by omega) e1)) (av_locs hl rfl) hL h1 h2
      · cases hs
  · cases hs
end AVP
