/-! ONE STEP: fields and arrays -/
section AVH
variable {p : Program} {l : Launch} {e : Env} {R : Room} {s : State} {m : MethodId} {args : Array Value} {below : List Frame} {meth : Method} {c : Code} {Q : State → Prop}
variable {a0 : Array Value} {s0 : State} {D : va_G} {TY : Nat → ClassId} {kr : Nat → Nat} {sc : av_Sr} {own nL : Nat} {cc : ByteArray} {ini : Bool} {h0 hf h h' : av_H} {pc pc' : Nat} {lv lv' : av_L} {st st' : List av_V}

theorem av_at_eq {z : Nat} {k : Nat} {H H' : Heap} (hk : av_at z D TY h k H) (hH : H'[z + k]? = H[z + k]?) (hlay : h'.2.2.1 k = h.2.2.1 k) (hA : h'.2.2.2.1 k = h.2.2.2.1 k) (hI : h'.2.2.2.2.1 k = h.2.2.2.2.1 k) (hG : h'.2.2.2.2.2.1 k = h.2.2.2.2.2.1 k) (hRr : h'.2.2.2.2.2.2.1 k = h.2.2.2.2.2.2.1 k) : av_at z D TY h' k H' := by
  unfold av_at at hk ⊢
  rw [hlay]
  by_cases c1 : (h.2.2.1 k).1 < 9
  · rw [if_pos c1] at hk ⊢
    refine (hk.kept hH).to (fun j _ => ?_)
    unfold av_fv
    rw [hI, hG]
  · rw [if_neg c1] at hk ⊢
    by_cases c2 : (h.2.2.1 k).1 < 30
    · rw [if_pos c2] at hk ⊢
      rw [hH, hA]
      exact hk
    · rw [if_neg c2] at hk ⊢
      rw [hH, hRr]
      exact hk
/-- one cell of the small heap has changed -/
theorem av_R_upd {H H' : Heap} {o : Nat} (hR : av_R s0 D TY sc h H) (hz : H'.size = H.size) (hoth : ∀ q : Nat, q ≠ s0.heap.size + o → H'[q]? = H[q]?) (hn : h'.1 = h.1) (hlay : h'.2.2.1 = h.2.2.1) (hsc : h'.2.2.2.2.2.2.2 = h.2.2.2.2.2.2.2)
    (hsame : ∀ k, k ≠ o → h'.2.2.2.1 k = h.2.2.2.1 k ∧ h'.2.2.2.2.1 k = h.2.2.2.2.1 k ∧ h'.2.2.2.2.2.1 k = h.2.2.2.2.2.1 k ∧ h'.2.2.2.2.2.2.1 k = h.2.2.2.2.2.2.1 k) (hc : av_at s0.heap.size D TY h' o H') : av_R s0 D TY sc h' H' := by
  obtain ⟨r1, r2, r3, r4⟩ := hR
  refine ⟨by rw [hz, r1, hn], fun q hq => (hoth q (by omega)).trans (r2 q hq), trivial, fun k hk => ?_⟩
  by_cases e : k = o
  · subst e
    exact hc
  · obtain ⟨q1, q2, q3, q4⟩ := hsame k e
    exact av_at_eq (r4 k (by rw [← hn]; exact hk)) (hoth _ (by omega)) (by rw [hlay]) q1 q2 q3 q4
/-- a cell has come behind -/
theorem av_R_new {H H' : Heap} (hR : av_R s0 D TY sc h H) (hz : H'.size = H.size + 1) (hoth : ∀ q : Nat, q < H.size → H'[q]? = H[q]?) (hn : h'.1 = h.1 + 1) (hsc : h'.2.2.2.2.2.2.2 = h.2.2.2.2.2.2.2)
    (hsame : ∀ k, k ≠ h.1 → h'.2.2.1 k = h.2.2.1 k ∧ h'.2.2.2.1 k = h.2.2.2.1 k ∧ h'.2.2.2.2.1 k = h.2.2.2.2.1 k ∧ h'.2.2.2.2.2.1 k = h.2.2.2.2.2.1 k ∧ h'.2.2.2.2.2.2.1 k = h.2.2.2.2.2.2.1 k) (hc : av_at s0.heap.size D TY h' h.1 H') : av_R s0 D TY sc h' H' := by
  obtain ⟨r1, r2, r3, r4⟩ := hR
  refine ⟨by rw [hz, r1, hn]; omega, fun q hq => (hoth q (by omega)).trans (r2 q hq), trivial, fun k hk => ?_⟩
  by_cases e : k = h.1
  · subst e
    exact hc
  · obtain ⟨q0, q1, q2, q3, q4⟩ := hsame k e
    exact av_at_eq (r4 k (by omega)) (hoth _ (by omega)) q0 q1 q2 q3 q4
theorem av_wd {w : Cond} (C : av_Cx p R s m meth c a0 s0 D TY own nL cc ini h0 hf) (hw : w ∈ lw_tbl) (hg : (w.onTables && w.keeps) = true) : w.before args s = true := word_at C.2.2.2.2.1 (Or.inl hg) (C.2.2.2.2.2.1.1 w hw)
theorem av_wdA {ty : FieldType} (C : av_Cx p R s m meth c a0 s0 D TY own nL cc ini h0 hf) (hw : Cond.arrayClass ty ∈ lw_tbl) : (Cond.arrayClass ty).before args s = true := word_at C.2.2.2.2.1 (Or.inr ⟨ty, rfl⟩) (C.2.2.2.2.2.1.1 _ hw)
theorem av_wdF {b n d host : String} {a : String} {i : Nat} (C : av_Cx p R s m meth c a0 s0 D TY own nL cc ini h0 hf) (hw : Cond.fieldLinkNest a i b n d host ∈ lw_tbl) : (Cond.fieldLinkNest a i b n d host).before args s = true := va_Nw.use rfl (va_Nw.warmF C.2.2.2.2.1 (va_Nw.of rfl (C.2.2.2.2.2.1.1 _ hw)))
theorem av_wdM {a host : String} {i : Nat} {x : MethodName} (C : av_Cx p R s m meth c a0 s0 D TY own nL cc ini h0 hf) (hw : Cond.methodLinkNest a i x host ∈ lw_tbl) : va_Nw (.methodLinkNest a i x host) s := va_Nw.warmM C.2.2.2.2.1 (va_Nw.of rfl (C.2.2.2.2.2.1.1 _ hw))
theorem av_kn {ci : Nat} (C : av_Cx p R s m meth c a0 s0 D TY own nL cc ini h0 hf) (hci : ci < 9) : u_Kn s (av_cn ci) (av_T ci) (av_N ci) (D.1 ci) (D.2 ci) := u_Kn_moved C.2.2.2.2.1.alike (C.2.2.2.2.2.1.2.1 ci hci)
theorem av_ka {k : Nat} (C : av_Cx p R s m meth c a0 s0 D TY own nL cc ini h0 hf) (hk : k ∈ [20, 21, 22, 30, 31, 32]) : ArrOfT s (TY k) (av_ft k) ∧ va_RA s (TY k) (av_ft k) := ⟨arrOfT_moved C.2.2.2.2.1.alike (C.2.2.2.2.2.1.2.2 k hk).1, (C.2.2.2.2.2.1.2.2 k hk).2.moved C.2.2.2.2.1.alike⟩
theorem av_hts {ci : Nat} (C : av_Cx p R s m meth c a0 s0 D TY own nL cc ini h0 hf) (hci : ci < 9) : ∀ w ∈ u_ws (av_cn ci) (av_T ci) (av_N ci), w.before args s = true := by
  intro w hw
  refine av_wd C (av_lay ci hci w hw) ?_
  obtain ⟨k, -, rfl⟩ := List.mem_map.mp hw
  unfold u_lay
  split <;> rfl
/-- how a field is named at a place: by the tables' word, or by the nest's -/
def av_FL (own idx ci k : Nat) : Prop := Cond.fieldLink (av_cn own) idx (av_T ci k).1 (av_T ci k).2.1 (av_T ci k).2.2.1 ∈ lw_tbl ∨ ∃ host, Cond.fieldLinkNest (av_cn own) idx (av_T ci k).1 (av_T ci k).2.1 (av_T ci k).2.2.1 host ∈ lw_tbl
theorem av_s_getf {x : av_E} {idx : Nat} (C : av_Cx p R s m meth c a0 s0 D TY own nL cc ini h0 hf) (hd : decode cc pc = .ok (.getfield idx, 3)) (hci : x.2.2.1 < 9) (hk : x.2.2.2.1 < av_N x.2.2.1) (ht : x.2.2.2.2.1 = av_tg (av_ty x.2.2.1 x.2.2.2.1)) (hlk : av_FL own idx x.2.2.1 x.2.2.2.1)
    (hs : av_getf x pc lv st h = some (pc', lv', st', h')) (k : av_W p l e R s m args below meth c Q s0 D TY kr sc nL h0 pc' lv' st' h') : av_W p l e R s m args below meth c Q s0 D TY kr sc nL h0 pc lv st h := by
  intro H locs ls hR hl hL h1 h2
  unfold av_getf at hs
  split at hs
  · next o r =>
    split at hs
    · next hc =>
      cases hs
      have kk := k H locs ls hR hl hL h1 h2
      have hat := hR.2.2.2 o hc.1
      unfold av_at at hat
      rw [if_pos (by rw [hc.2]; exact hci), hc.2] at hat
      obtain ⟨cell, q1, q2, q3, q4⟩ := hat
      have hK := av_kn C hci
      obtain ⟨hS, hfc, kC, hkC, hkind⟩ := hK
      obtain ⟨cf, kf, fi, f, hi, hsl⟩ := hS _ hk
      have hst := (u_facts hfc hkC (u_lays (args := args) (av_hts C hci) (fun w hw => hw) hk) hi).1
      have hv : cell.slots[f.slot]? = some (av_ev s0.heap.size kr (match x.2.2.2.2.1 with
        | 1 => .inr (.inl (h.2.2.2.2.1 o x.2.2.2.1))
        | 2 => .inr (.inr (.inl (h.2.2.2.2.2.1 o x.2.2.2.1)))
        | _ => .inl (h.2.2.2.2.1 o x.2.2.2.1))) := by
        rw [hsl, q4 _ hk]
        unfold av_fv
        dsimp only
        rw [← ht]
        generalize x.2.2.2.2.1 = tg
        rcases tg with _ | _ | _ | tg <;> rfl
      rcases hlk with hlk | ⟨host, hlk⟩
      · exact W.getf C.1 C.2.1 C.2.2.2.1 (av_wd C hlk rfl) hi hst q1 (by rw [q3]; exact fun q => by cases q) hv rfl rfl hd kk
      · exact va_Wgetf C.1 C.2.1 C.2.2.2.1 (av_wdF C hlk) hi hst q1 (by rw [q3]; exact fun q => by cases q) hv rfl rfl hd kk
    · cases hs
  · cases hs
theorem av_apart {ci : Nat} (C : av_Cx p R s m meth c a0 s0 D TY own nL cc ini h0 hf) (hci : ci < 9) : ∀ x y, x < av_N ci → y < av_N ci → x ≠ y → (D.2 ci) x ≠ (D.2 ci) y := by
  intro x y hx hy hne
  obtain ⟨hS, -⟩ := av_kn C hci
  obtain ⟨_, _, _, fa, hia, ea⟩ := hS x hx
  obtain ⟨_, _, _, fb, hib, eb⟩ := hS y hy
  rw [← ea, ← eb]
  refine u_apart (args := #[]) (u_lays (args := #[]) (av_hts C hci) (fun w hw => hw) hx) (u_lays (args := #[]) (av_hts C hci) (fun w hw => hw) hy) hia hib ?_
  rw [(State.fieldFound?_type hia (av_tyok ci hci x hx)).1, (State.fieldFound?_type hib (av_tyok ci hci y hy)).1]
  exact av_nm ci hci x hx y hy hne
/-- a store into a field: the cell, as the kit's rows give it -/
theorem av_put {idx ci k o : Nat} {v : Value} {rest : List Value} {H : Heap} {locs : List Loc} {cells slots : Nat} {ls : Array Slot} (C : av_Cx p R s m meth c a0 s0 D TY own nL cc ini h0 hf) (hd : decode cc pc = .ok (.putfield idx, 3)) (hci : ci < 9) (hk : k < av_N ci) (hlk : av_FL own idx ci k) (hfi : (av_T ci k).2.2.2 = false ∨ (own = ci ∧ (av_T ci k).1 = av_cn ci ∧ ini = true ∧ Cond.fieldLink (av_cn own) idx (av_T ci k).1 (av_T ci k).2.1 (av_T ci k).2.2.1 ∈ lw_tbl))
    (hn : narrow (av_ty ci k) v = v) (hfit : fits (av_ty ci k) v = true) (ho : o < h.1 ∧ (h.2.2.1 o).1 = ci) (hR : av_R s0 D TY sc h H)
    (kk : ∀ (H1 : Heap) (lc : Loc), H1.size = H.size → (∀ q : Nat, q ≠ s0.heap.size + o → H1[q]? = H[q]?) → t_OB (s0.heap.size + o) (D.1 ci) (av_N ci) (D.2 ci) H1 (updV (fun j => av_fv s0.heap.size h (av_ty ci j) o j) k v) → lc.base = s0.heap.size + o → W p l e R s m args below meth c H1 (locs ++ [lc]) cells slots Q (F0 m (pc + 3) ls rest)) : W p l e R s m args below meth c H locs cells slots Q (F0 m pc ls (v :: .ref (s0.heap.size + o) :: rest)) := by
  have hap := av_apart C hci
  have hat := hR.2.2.2 o ho.1
  unfold av_at at hat
  rw [if_pos (by rw [ho.2]; exact hci), ho.2] at hat
  obtain ⟨cell, q1, q2, q3, q4⟩ := hat
  have hK := av_kn C hci
  obtain ⟨hS, hfc, kC, hkC, hkind⟩ := hK
  obtain ⟨cf, kf, fi, f, hi, hsl⟩ := hS _ hk
  have hts := av_hts (args := args) C hci
  have hst := (u_facts hfc hkC (u_lays hts (fun w hw => hw) hk) hi).1
  have hlay := hts _ (u_in_lay hk)
  have hty := av_tyok ci hci k hk
  have fin : ∀ (H' : Heap), H'[s0.heap.size + o]? = some (cell.setSlot f.slot v) → t_OB (s0.heap.size + o) (D.1 ci) (av_N ci) (D.2 ci) H' (updV (fun j => av_fv s0.heap.size h (av_ty ci j) o j) k v) := by
    intro H' e1
    rw [hsl] at e1
    exact ⟨_, e1, q2, q3, t_set q4 hap hk v⟩
  rcases hfi with hfi | ⟨hoc, hdl, hin, hlf⟩
  · unfold u_lay at hlay
    rw [if_neg (by rw [hfi]; decide)] at hlay
    have h6 := u_store hfc hkC hkind hlay hi hty hn hfit
    rcases hlk with hlk | ⟨host, hlk⟩
    · exact W.putK C.1 C.2.1 (f := f) ⟨C.2.2.2.1, av_wd C hlk rfl, ⟨_, _, _, hi⟩, hst⟩ (by rw [q2]; exact h6) q1 q3 (by rw [hsl]; exact k2_hasslot (q4 k hk)) rfl rfl hd fun H' e1 e2 e3 => kk H' _ e2 e3 (fin H' e1) rfl
    · exact va_WputK C.1 C.2.1 (f := f) C.2.2.2.1 (av_wdF C hlk) hi hst (by rw [q2]; exact h6) q1 q3 (by rw [hsl]; exact k2_hasslot (q4 k hk)) rfl rfl hd fun H' e1 e2 e3 => kk H' _ e2 e3 (fin H' e1) rfl
  · by_cases hfi : (av_T ci k).2.2.2 = true
    · unfold u_lay at hlay
      rw [if_pos hfi] at hlay
      have hcf : m.cls = cf := by
        obtain ⟨_, _, c', _, _, _, -, -, hf', -, -, -, hown2, -⟩ := Cond.laysFinal_spec hlay
        have e1 : c' = cf := by have := hi.symm.trans hf'; simp at this; exact this.1.symm
        rw [hdl, ← hoc] at hown2
        rw [← e1]
        exact Option.some.inj (C.2.2.2.1.symm.trans hown2)
      have h6 := u_fits hfc hkC hkind (Or.inr hlay) hi hty hn hfit
      exact W.putFinK C.1 C.2.1 C.2.2.2.1 (av_wd C hlf rfl) hi hst hcf (C.2.2.2.2.2.2.1 hin) (by rw [q2]; exact h6) q1 q3 (by rw [hsl]; exact k2_hasslot (q4 k hk)) rfl rfl hd fun H' e1 e2 e3 => kk H' _ e2 e3 (fin H' e1) rfl
    · unfold u_lay at hlay
      rw [if_neg hfi] at hlay
      have h6 := u_store hfc hkC hkind hlay hi hty hn hfit
      exact W.putK C.1 C.2.1 (f := f) ⟨C.2.2.2.1, av_wd C hlf rfl, ⟨_, _, _, hi⟩, hst⟩ (by rw [q2]; exact h6) q1 q3 (by rw [hsl]; exact k2_hasslot (q4 k hk)) rfl rfl hd fun H' e1 e2 e3 => kk H' _ e2 e3 (fin H' e1) rfl
end AVH
