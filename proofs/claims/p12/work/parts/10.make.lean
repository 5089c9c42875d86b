/-! ONE STEP: objects, rows of references, rows of rows -/
section AVM
variable {p : Program} {l : Launch} {e : Env} {R : Room} {s : State} {m : MethodId} {args : Array Value} {below : List Frame} {meth : Method} {c : Code} {Q : State → Prop}
variable {a0 : Array Value} {s0 : State} {D : va_G} {TY : Nat → ClassId} {kr : Nat → Nat} {sc : av_Sr} {own nL : Nat} {cc : ByteArray} {ini : Bool} {h0 hf h h' : av_H} {pc pc' : Nat} {lv lv' : av_L} {st st' : List av_V}

theorem av_ra {k : Nat} (C : av_Cx p R s m meth c a0 s0 D TY own nL cc ini h0 hf) (hk : k ∈ [20, 21, 22, 30, 31, 32]) : s.vm.findClass ("[" ++ (av_ft k).toString) = some (TY k) := by
  have hra := (av_ka C hk).2
  simp only [List.mem_cons, List.not_mem_nil, or_false] at hk
  rcases hk with rfl | rfl | rfl | rfl | rfl | rfl
  · exact hra
  · exact hra
  · exact hra
  · obtain ⟨_, _, _, _, _, q⟩ := hra
    exact q
  · obtain ⟨_, _, _, _, _, q⟩ := hra
    exact q
  · exact hra
theorem av_dfl : ∀ ci, ci < 9 → ∀ j, j < av_N ci → defaultValue (av_ty ci j) = (match av_tg (av_ty ci j) with
    | 1 => .long 0
    | 2 => .null
    | _ => .int 0) := by decide +kernel
theorem av_outer (c : ClassId) (N h0 : Nat) : ∀ i : Nat, Jvm.Free.Multi.outerC c N h0 i = arrV c N (fun j => va_rf (if j < i then some (h0 + 1 + j) else none))
  | 0 => by
    show ({ cls := c, slots := Array.replicate N .null, vm := .none } : Cell) = _
    rw [arrV_new]
    refine congrArg (arrV c N) (funext fun j => ?_)
    simp [va_rf]
  | i + 1 => by
    show (Jvm.Free.Multi.outerC c N h0 i).setSlot i (.ref (h0 + 1 + i)) = _
    rw [av_outer c N h0 i, arrV_store]
    refine congrArg (arrV c N) (funext fun j => ?_)
    by_cases e : j = i
    · subst e
      simp [updV, va_rf]
    · by_cases h : j < i
      · simp [updV, e, h, Nat.lt_succ_of_lt h]
      · simp [updV, e, h, show ¬ j < i + 1 by omega]
theorem av_s_new {x : av_E} {idx : Nat} (C : av_Cx p R s m meth c a0 s0 D TY own nL cc ini h0 hf) (hd : decode cc pc = .ok (.new idx, 3)) (hci : x.2.2.1 < 9) (hlk : Cond.classLink (av_cn own) idx (av_cn x.2.2.1) ∈ lw_tbl) (hle : (av_newO x.2.2.1 (av_N x.2.2.1) h).1 ≤ hf.1 ∧ (av_newO x.2.2.1 (av_N x.2.2.1) h).2.1 ≤ hf.2.1) (k : av_W p l e R s m args below meth c Q s0 D TY kr sc nL h0 (pc + 3) lv (.inr (.inr (.inl (some h.1))) :: st) (av_newO x.2.2.1 (av_N x.2.2.1) h)) : av_W p l e R s m args below meth c Q s0 D TY kr sc nL h0 pc lv st h := by
  intro H locs ls hR hl hL h1 h2
  simp only [av_newO] at hle
  have hroom : h.1 - h0.1 + 1 ≤ R.cells ∧ h.2.1 - h0.2.1 + av_N x.2.2.1 ≤ R.slots := by
    have := C.2.2.2.2.2.2.2
    omega
  have hK := av_kn C hci
  have hin := av_inst x.2.2.1 hci
  refine W.newcK C.1 C.2.1 C.2.2.2.1 (av_wd C hlk rfl) (av_wd C hin.1 rfl) (av_wd C hin.2 rfl) rfl hd hroom.1 hroom.2 hK.2.1 rfl (fun H' kC e1 e2 e3 e4 => ?_)
  have hsz := hR.1
  have hb := u_born (args := args) (av_ty x.2.2.1) (av_hts C hci) (fun w hw => hw) hK e1 e2 (av_tyok x.2.2.1 hci)
  have hR' : av_R s0 D TY sc (av_newO x.2.2.1 (av_N x.2.2.1) h) H' := by
    refine av_R_new hR e3 e4 rfl rfl (fun q hq => ⟨av_u1_ne hq, rfl, av_u1_ne hq, av_u1_ne hq, rfl⟩) ?_
    unfold av_at
    simp only [av_newO, av_u1_self]
    rw [if_pos hci, ← hsz]
    refine hb.to (fun j hj => ?_)
    rw [av_dfl _ hci j hj]
    unfold av_fv
    simp only [av_u1_self]
    generalize av_tg (av_ty x.2.2.1 j) = tg
    rcases tg with _ | _ | _ | tg <;> rfl
  have kk := k H' locs ls hR' hl hL (by simp only [av_newO]; omega) (by simp only [av_newO]; omega)
  have g1 : (av_newO x.2.2.1 (av_N x.2.2.1) h).1 - h0.1 = h.1 - h0.1 + 1 := by simp only [av_newO]; omega
  have g2 : (av_newO x.2.2.1 (av_N x.2.2.1) h).2.1 - h0.2.1 = h.2.1 - h0.2.1 + av_N x.2.2.1 := by simp only [av_newO]; omega
  rw [g1, g2] at kk
  rw [hsz]
  exact kk
theorem av_s_anew {x : av_E} {idx : Nat} {C0 : String} (C : av_Cx p R s m meth c a0 s0 D TY own nL cc ini h0 hf) (hd : decode cc pc = .ok (.anewarray idx, 3)) (hft : av_ft x.2.2.1 = .object C0) (hlk : Cond.classLink (av_cn own) idx C0 ∈ lw_tbl) (hov : Cond.arrayOver (.object C0) ∈ lw_tbl) (hs : av_anew x.2.2.1 pc lv st h = some (pc', lv', st', h')) (hle : h'.1 ≤ hf.1 ∧ h'.2.1 ≤ hf.2.1) (k : av_W p l e R s m args below meth c Q s0 D TY kr sc nL h0 pc' lv' st' h') : av_W p l e R s m args below meth c Q s0 D TY kr sc nL h0 pc lv st h := by
  intro H locs ls hR hl hL h1 h2
  unfold av_anew at hs
  split at hs
  · next n r =>
    split at hs
    · next hc =>
      cases hs
      obtain ⟨c1, c2, c3⟩ := hc
      simp only [av_newR] at hle
      have hroom : h.1 - h0.1 + 1 ≤ R.cells ∧ h.2.1 - h0.2.1 + (av_w n).toNat ≤ R.slots := by
        have := C.2.2.2.2.2.2.2
        omega
      have hm : x.2.2.1 ∈ [20, 21, 22, 30, 31, 32] := by rcases c1 with q | q <;> rw [q] <;> decide
      have hov' : va_AO C0 s := va_AO.moved C.2.2.2.2.1.alike (va_AO.of (C.2.2.2.2.2.1.1 _ hov))
      refine W.anew C.1 C.2.1 C.2.2.2.1 (av_wd C hlk rfl) (va_AO.use hov') rfl hd (n := Int32.ofInt n) rfl (by rw [av_lt0]; omega) (by rw [av_nat]; omega) hroom.1 (by rw [av_nat]; exact hroom.2) (fun cA kA comp f1 f2 f3 f4 => ?_)
      have hn := av_ra C hm
      rw [hft] at hn
      have hcA : cA = TY x.2.2.1 := Option.some.inj (f1.symm.trans hn)
      subst hcA
      have hsz := hR.1
      have hR' : av_R s0 D TY sc (av_newR x.2.2.1 (av_w n).toNat h) (H.push { cls := TY x.2.2.1, slots := Array.replicate (Int32.ofInt n).toNatClampNeg .null, vm := .none }) := by
        refine av_R_new hR (Array.size_push _) (fun q hq => by rw [Array.getElem?_push, if_neg (Nat.ne_of_lt hq)]) rfl rfl (fun q hq => ⟨av_u1_ne hq, rfl, rfl, rfl, av_u1_ne hq⟩) ?_
        unfold av_at
        simp only [av_newR, av_u1_self]
        rw [if_neg (by omega), if_neg (by omega), ← hsz, Array.getElem?_push_size, arrV_new, av_nat]
        rfl
      have kk := k _ locs ls hR' hl hL (by simp only [av_newR]; omega) (by simp only [av_newR]; omega)
      have g1 : (av_newR x.2.2.1 (av_w n).toNat h).1 - h0.1 = h.1 - h0.1 + 1 := by simp only [av_newR]; omega
      have g2 : (av_newR x.2.2.1 (av_w n).toNat h).2.1 - h0.2.1 = h.2.1 - h0.2.1 + (av_w n).toNat := by simp only [av_newR]; omega
      rw [g1, g2, ← av_nat] at kk
      rw [hsz]
      exact kk
    · cases hs
  · cases hs
theorem av_s_mnew {idx : Nat} (C : av_Cx p R s m meth c a0 s0 D TY own nL cc ini h0 hf) (hd : decode cc pc = .ok (.multianewarray idx 2, 4)) (hlk : Cond.classLink (av_cn own) idx ("[" ++ (FieldType.array .int).toString) ∈ lw_tbl) (hov : Cond.arrayOver (.array .int) ∈ lw_tbl) (hac : Cond.arrayClass .int ∈ lw_tbl) (hs : av_mnew pc lv st h = some (pc', lv', st', h')) (hle : h'.1 ≤ hf.1 ∧ h'.2.1 ≤ hf.2.1) (k : av_W p l e R s m args below meth c Q s0 D TY kr sc nL h0 pc' lv' st' h') : av_W p l e R s m args below meth c Q s0 D TY kr sc nL h0 pc lv st h := by
  intro H locs ls hR hl hL h1 h2
  unfold av_mnew at hs
  split at hs
  · next d n r =>
    split at hs
    · next hc =>
      cases hs
      obtain ⟨⟨c1, c2⟩, c3, c4⟩ := hc
      have e1 := av_nat n
      have e2 := av_nat d
      generalize hN : (av_w n).toNat = N at *
      generalize hM : (av_w d).toNat = M at *
      have hNM : N * M ≤ 1000 * 1000 := Nat.mul_le_mul (by omega) (by omega)
      simp only [av_newM] at hle
      have hroom : h.1 - h0.1 + (1 + N) ≤ R.cells ∧ h.2.1 - h0.2.1 + (N + N * M) ≤ R.slots := by
        have := C.2.2.2.2.2.2.2
        omega
      have hov' := over_moved (a' := args) C.2.2.2.2.1.alike (C.2.2.2.2.2.1.1 _ hov)
      intro T hT Xs
      obtain ⟨vm₁, cA, comp, -, fA, fC, hO, -, X', step⟩ := Xs.multianewarray2F C.1 C.2.2.2.1 (av_wd C hlk rfl) hov' (av_wdA C hac) (g := F0 m pc ls (.int (Int32.ofInt d) :: .int (Int32.ofInt n) :: r.map (av_ev s0.heap.size kr))) rfl (by rw [C.2.1]; exact hd) rfl (by rw [av_lt0]; omega) (by rw [av_lt0]; omega) (by omega) (by rw [e2]; show M * 4 ≤ 536870912; omega) (by omega) rfl rfl (by rw [e1]; exact hroom.1) (by rw [e1, e2]; exact hroom.2)
      have hcA : cA = TY 32 := Option.some.inj (fA.symm.trans (av_ra C (k := 32) (by decide)))
      have hcC : comp = TY 20 := Option.some.inj (fC.symm.trans (av_ra C (k := 20) (by decide)))
      subst hcA
      subst hcC
      rw [e1, e2] at X' step
      have hsz := hR.1
      generalize hF : Jvm.Free.Multi.fill (T.setVm vm₁) (TY 32) (TY 20) N M (defaultValue .int) N = F at X' step
      have hTh : (T.setVm vm₁).heap = H := hT
      obtain ⟨f1, f2, -, -⟩ := Jvm.Free.Multi.fill_facts (T.setVm vm₁) (TY 32) (TY 20) N M (defaultValue .int) N
      rw [hF, hTh] at f1 f2
      have hold : ∀ x : Nat, x < H.size → F.heap[x]? = H[x]? := fun x hx => by
        have := Jvm.Free.Multi.fill_old (T.setVm vm₁) (TY 32) (TY 20) N M (defaultValue .int) (a := x) (by rw [hTh]; exact hx) N
        rw [hF, hTh] at this
        exact this
      have hrow : ∀ j : Nat, j < N → F.heap[H.size + 1 + j]? = some (arrV (TY 20) M (fun _ => .int 0)) := fun j hj => by
        have := Jvm.Free.Multi.fill_inner (T.setVm vm₁) (TY 32) (TY 20) N M (defaultValue .int) N j hj
        rw [hF, hTh] at this
        rw [this]
        exact congrArg some (arrV_new (TY 20) M (.int 0))
      rw [av_outer] at f2
      have hR' : av_R s0 D TY sc (av_newM N M h) F.heap := by
        obtain ⟨r1, r2, r3, r4⟩ := hR
        refine ⟨by simp only [av_newM]; omega, fun q hq => (hold q (by omega)).trans (r2 q hq), trivial, fun q hq => ?_⟩
        simp only [av_newM] at hq
        by_cases q1 : q = h.1
        · subst q1
          unfold av_at
          simp only [av_newM, if_true, av_u1_self]
          rw [if_neg (by omega), if_neg (by omega), ← r1, f2]
          congr 2
          funext j
          by_cases hj : j < N
          · simp only [if_pos hj, Option.map_some]
            congr 2
            omega
          · simp only [if_neg hj, Option.map_none]
        · by_cases q2 : q < h.1
          · refine av_at_eq (r4 q q2) (hold _ (by omega)) ?_ ?_ rfl rfl (av_u1_ne q1)
            · simp only [av_newM]
              rw [if_neg q1, if_neg (by omega)]
            · funext j
              simp only [av_newM]
              rw [if_neg (by omega)]
          · have q3 : h.1 < q ∧ q < h.1 + 1 + N := by omega
            have hkd : (av_newM N M h).2.2.1 q = (20, M) := by
              simp only [av_newM]
              rw [if_neg q1, if_pos q3]
            have hkA : (av_newM N M h).2.2.2.1 q = fun _ => 0 := by
              funext j
              simp only [av_newM]
              rw [if_pos q3]
            unfold av_at
            rw [hkd, hkA, if_neg (show ¬ (20 : Nat) < 9 by omega), if_pos (show (20 : Nat) < 30 by omega)]
            obtain ⟨j, rfl⟩ : ∃ j, q = h.1 + 1 + j := ⟨q - (h.1 + 1), by omega⟩
            have := hrow j (by omega)
            rw [show s0.heap.size + (h.1 + 1 + j) = H.size + 1 + j by omega, this]
            rfl
      have kk := k F.heap locs ls hR' hl hL (by simp only [av_newM]; omega) (by simp only [av_newM]; omega)
      have g1 : (av_newM N M h).1 - h0.1 = h.1 - h0.1 + 1 + N := by simp only [av_newM]; omega
      have g2 : (av_newM N M h).2.1 - h0.2.1 = h.2.1 - h0.2.1 + N + N * M := by simp only [av_newM]; omega
      rw [g1, g2] at kk
      obtain ⟨t, b1, b2⟩ := kk F rfl X'
      refine ⟨t, step t ?_, b2⟩
      rw [hT, hsz]
      exact b1
    · cases hs
  · cases hs
end AVM
