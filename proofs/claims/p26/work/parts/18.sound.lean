/-! WHAT THE SMALL MACHINE ANSWERS, THE MACHINE ANSWERS -/
theorem av_take {b : Nat} {st : List av_V} {z : Nat} {kr : Nat → Nat} (hb : b ≤ st.length) : (((st.take b).reverse).map (av_ev z kr)).length = b := by
  simp
  omega
theorem av_popS {x : av_E} {st vs rst : List av_V} {h : av_H} (hp : av_pop x st h = some (vs, rst)) (hc : x.2.2.2.2.1 = 2) : x.2.2.2.1 ≤ st.length ∧ st.drop x.2.2.2.1 = rst ∧ (rst.map av_cat).sum ≤ 8 ∧ vs = (st.take x.2.2.2.1).reverse := by
  unfold av_pop at hp
  rw [hc] at hp
  split at hp
  · next hb =>
    simp only at hp
    split at hp
    · next hq =>
      cases hp
      exact ⟨hb, rfl, hq, rfl⟩
    · cases hp
  · cases hp
theorem av_popV {x : av_E} {st vs rst : List av_V} {h : av_H} (hp : av_pop x st h = some (vs, rst)) (hc : x.2.2.2.2.1 = 0 ∨ x.2.2.2.2.1 = 1) : x.2.2.2.1 ≤ st.length ∧ ∃ o, st.drop x.2.2.2.1 = .inr (.inr (.inl (some o))) :: rst ∧ (rst.map av_cat).sum ≤ 8 ∧ o < h.1 ∧ ((h.2.2.1 o).1 : Int) = x.2.2.2.2.2 ∧ vs = .inr (.inr (.inl (some o))) :: (st.take x.2.2.2.1).reverse := by
  unfold av_pop at hp
  split at hp
  · next hb =>
    refine ⟨hb, ?_⟩
    cases hdr : st.drop x.2.2.2.1 with
    | nil =>
      rw [hdr] at hp
      rcases hc with hc | hc <;> (rw [hc] at hp; simp at hp)
    | cons u us =>
      rw [hdr] at hp
      have go : ∀ o, u = .inr (.inr (.inl (some o))) → (if (us.map av_cat).sum ≤ 8 ∧ o < h.1 ∧ ((h.2.2.1 o).1 : Int) = x.2.2.2.2.2 then some (.inr (.inr (.inl (some o))) :: (st.take x.2.2.2.1).reverse, us) else none) = some (vs, rst) → ∃ o, u :: us = .inr (.inr (.inl (some o))) :: rst ∧ (rst.map av_cat).sum ≤ 8 ∧ o < h.1 ∧ ((h.2.2.1 o).1 : Int) = x.2.2.2.2.2 ∧ vs = .inr (.inr (.inl (some o))) :: (st.take x.2.2.2.1).reverse := by
        intro o hu hp
        split at hp
        · next hq =>
          cases hp
          exact ⟨o, by rw [hu], hq.1, hq.2.1, hq.2.2, rfl⟩
        · cases hp
      rcases u with y | y | (_ | o) | y <;> (rcases hc with hc | hc <;> (rw [hc] at hp; simp only at hp)) <;> first | (cases hp; done) | exact go o rfl hp
  · cases hp
theorem av_all {l : Launch} {a0 : Array Value} {s0 : State} {D : va_G} {TY : Nat → ClassId} {kr ad : Nat → Nat} {T : Nat → Option av_Mr} (hG : av_Good T) (hZ : av_Z a0 s0 D TY) (G0 : av_Gl s0 kr ad none) : ∀ n, ∀ sc, av_Gl s0 kr ad sc → av_Bd l a0 s0 D TY kr sc T n := by
  intro n
  induction n with
  | zero => intro sc G p e R s m args below meth c Q r h0 hf h pc lv st v hd C hfr hlo kret hs; simp [av_run] at hs
  | succ n ih =>
    intro sc G p e R s m args below meth c Q r h0 hf h pc lv st v hd C hfr hlo kret hs
    unfold av_run at hs
    split at hs
    · cases hs
    · next x hx =>
      obtain ⟨hok, hrk, hck⟩ := hd _ (av_lookup hx)
      split at hs
      · next hkd =>
        split at hs
        · cases hs
        · next pc1 lv1 st1 h1 hs1 =>
          exact av_step C G hfr hlo hok hkd hs1 (av_mono _ _ _ _ _ _ _ _ _ _ hs) (ih sc G p e R s m args below meth c Q r h0 hf h1 pc1 lv1 st1 v hd C hfr hlo kret hs)
      · obtain ⟨ins, ln, xa, xb, xc, xk⟩ := x
        unfold av_ret at hs
        split at hs
        · next he =>
          cases hs
          have he : ins = .return_ := he
          subst he
          exact kret pc lv _ hok.1 (Or.inl ⟨rfl, rfl, hrk⟩)
        · next y he =>
          have he : ins = .ireturn := he
          subst he
          split at hs
          · next hc =>
            cases hs
            refine kret pc lv _ hok.1 (Or.inr (Or.inl ⟨rfl, y, rfl, ?_⟩))
            have hrk : (xa = 0 ∧ r.2.2.2.2.1 = some .int) ∨ (xa = 1 ∧ r.2.2.2.2.1 = some .boolean) := hrk
            rcases hrk with ⟨q1, q2⟩ | ⟨q1, q2⟩
            · exact Or.inl q2
            · refine Or.inr ⟨q2, ?_⟩
              rcases hc with hc | hc
              · have hc : xa = 0 := hc
                omega
              · exact hc
          · cases hs
        · next y he =>
          cases hs
          have he : ins = .areturn := he
          subst he
          exact kret pc lv _ hok.1 (Or.inr (Or.inr ⟨rfl, y, rfl, hrk⟩))
        · cases hs
      · next hk0 hk1 =>
        have hkd : av_kd x = 2 := by
          have : av_kd x = 0 ∨ av_kd x = 1 ∨ av_kd x = 2 := by
            obtain ⟨ins, ln, xa, xb, xc, xk⟩ := x
            cases ins <;> simp only [av_kd] <;> first | (split <;> simp) | simp
          rcases this with q | q | q
          · exact absurd q hk0
          · exact absurd q hk1
          · exact q
        dsimp only at hok hrk hck
        obtain ⟨r', hT, hkind, hna, hown', hf1, hl1, hlink⟩ := hck hkd
        have hPt : av_Pt T x.2.2.1 = some (r'.2.2.2.1, r'.2.2.2.2.2.2.2.2.2) := by
          unfold av_Pt
          rw [hT]
          rfl
        rw [hPt] at hs
        split at hs
        · next M vs rst hM hpop =>
          cases hM
          split at hs
          · next hlen =>
            split at hs
            · cases hs
            · next u h1 hcall =>
              obtain ⟨hd', hh'⟩ := hG _ _ hT
              have hMt := av_met (sc := sc) hZ (ih none G0) hd' hh' hlen hcall
              have m1 := av_mono _ _ _ _ _ _ _ _ _ _ hcall
              have m2 := av_mono _ _ _ _ _ _ _ _ _ _ hs
              have k := ih sc G p e R s m args below meth c Q r h0 hf h1 (pc + 3) lv (u.toList ++ rst) v hd C hfr hlo kret hs
              have hZ1 := hZ.1
              have hW := C.2.2.2.2.1
              intro H locs ls hR hl hL g1 g2
              refine av_back (st0 := st.map (av_ev s0.heap.size kr)) (v := u) (vs := (vs.map (av_ev s0.heap.size kr)).toArray) ?_ m1 hl hL g1 g2 k
              have hroom : (h.1 - h0.1) + (h1.1 - h.1) ≤ R.cells ∧ (h.2.1 - h0.2.1) + (h1.2.1 - h.2.1) ≤ R.slots := by
                have := C.2.2.2.2.2.2.2
                have := m1.1
                have := m1.2
                have := m2.1
                have := m2.2
                omega
              have hPre : ∀ U : State, U.heap = H → s.WarmedH U.vm → av_Pm s0 D TY kr sc vs h (vs.map (av_ev s0.heap.size kr)).toArray U := fun U hU hWU => ⟨rfl, State.WarmedH.trans hW hWU, by rw [hU]; exact hR⟩
              obtain ⟨hp1, hp2, hp3, hp4, hp5, hp6, hp7⟩ := hh'
              have hi3 : (∃ idx, x.1 = .invokevirtual idx) ∨ (∃ idx, x.1 = .invokespecial idx) ∨ ∃ idx, x.1 = .invokestatic idx := by
                obtain ⟨ins, ln, xa, xb, xc, xk⟩ := x
                cases ins <;> simp only [av_kd] at hkd <;> first | (cases hkd; done) | simp
              have hdec : decode r.2.2.1 pc = .ok (x.1, 3) := by
                have := hok.1
                unfold av_len at this
                rcases hi3 with ⟨i, he⟩ | ⟨i, he⟩ | ⟨i, he⟩ <;> (rw [he] at this ⊢; exact this)
              have hst : st = st.take x.2.2.2.1 ++ st.drop x.2.2.2.1 := (List.take_append_drop _ _).symm
              have hfrm : r'.2.2.2.2.2.2.2.1 + 1 ≤ R.frames := by rw [hfr]; exact hf1
              have hlom : 8 + (r'.2.2.2.1 + 11) + r'.2.2.2.2.2.2.2.2.1 ≤ R.locals := by rw [hlo]; exact hl1
              rcases hi3 with ⟨idx, he⟩ | ⟨idx, he⟩ | ⟨idx, he⟩
              · rw [he] at hlink hdec
                obtain ⟨hc0, hlk⟩ := hlink
                obtain ⟨hbl, o, hdrop, q1, q2, q3, rfl⟩ := av_popV hpop (Or.inl hc0)
                have hlen9 := av_take (z := s0.heap.size) (kr := kr) hbl
                rcases hp7 with ⟨-, g9, gi, gs⟩ | ⟨g, -⟩ | ⟨g, -⟩
                · have q4 : (h.2.2.1 o).1 = r'.1 := by omega
                  have hrc : ∃ cellB : Cell, H[s0.heap.size + o]? = some cellB ∧ cellB.vm.isStatics = false ∧ s.vm.findClass r'.2.1.cls = some cellB.cls := by
                    have hat := hR.2.2.2 o q2
                    unfold av_at at hat
                    rw [if_pos (by rw [q4]; exact g9), q4] at hat
                    obtain ⟨cell, b1, b2, b3, -⟩ := hat
                    refine ⟨cell, b1, by rw [b3]; rfl, ?_⟩
                    rw [← hp2, b2]
                    exact (av_kn C g9).2.1
                  refine va_runV (C := r'.2.1.cls) (As := ((st.take x.2.2.2.1).reverse).map (av_ev s0.heap.size kr)) (b := s0.heap.size + o) (Ts := []) ⟨C.1, C.2.1, C.2.2.1, C.2.2.2.1, fun w hw => by cases hw⟩ hMt ⟨av_CB hZ1 hW rfl rfl hfrm hlom hp3 hp4 hlk hp5 hp6, av_go hZ1 hW gi rfl, av_go hZ1 hW gs rfl⟩ ⟨av_blindM, hrc, hPre⟩ rfl (hlen9.trans hna.symm) hL.1 ?_ (lv_room (by rw [av_cats]; exact q1)) hdec hroom
                  show st.map (av_ev s0.heap.size kr) = _
                  conv => lhs; rw [hst, hdrop]
                  simp [av_ev, va_rf]
                · omega
                · omega
              · rw [he] at hlink hdec
                obtain ⟨hc0, hlk⟩ := hlink
                obtain ⟨hbl, o, hdrop, q1, q2, q3, rfl⟩ := av_popV hpop (Or.inr hc0)
                have hlen9 := av_take (z := s0.heap.size) (kr := kr) hbl
                rcases hp7 with ⟨g, -⟩ | ⟨-, gn, gi, grt⟩ | ⟨g, -⟩
                · omega
                · unfold av_Mt at hMt
                  rw [grt] at hMt hp3
                  have hstk : st.map (av_ev s0.heap.size kr) = (((st.take x.2.2.2.1).reverse).map (av_ev s0.heap.size kr)).reverse ++ .ref (s0.heap.size + o) :: rst.map (av_ev s0.heap.size kr) := by
                    conv => lhs; rw [hst, hdrop]
                    simp [av_ev, va_rf]
                  rcases hlk with hlk | ⟨host, hlk⟩
                  · exact va_runI (As := ((st.take x.2.2.2.1).reverse).map (av_ev s0.heap.size kr)) (b := s0.heap.size + o) (Ts := []) ⟨C.1, C.2.1, C.2.2.1, C.2.2.2.1, fun w hw => by cases hw⟩ hMt ⟨av_CB hZ1 hW rfl rfl hfrm hlom hp3 hp4 hlk hp5 hp6, gn, av_go hZ1 hW gi rfl⟩ ⟨av_blindM, hPre⟩ rfl (hlen9.trans hna.symm) hL.1 hstk (lv_room (by rw [av_cats]; exact q1)) hdec hroom
                  · exact va_runIN (As := ((st.take x.2.2.2.1).reverse).map (av_ev s0.heap.size kr)) (b := s0.heap.size + o) (Ts := []) ⟨C.1, C.2.1, C.2.2.1, C.2.2.2.1, fun w hw => by cases hw⟩ hMt ⟨av_CN hZ1 hW rfl rfl hfrm hlom hp3 hp4 hlk hp5 hp6, gn, av_go hZ1 hW gi rfl⟩ ⟨av_blindM, hPre⟩ rfl (hlen9.trans hna.symm) hL.1 hstk (lv_room (by rw [av_cats]; exact q1)) hdec hroom
                · omega
              · rw [he] at hlink hdec
                obtain ⟨hc0, hlk⟩ := hlink
                obtain ⟨hbl, hdrop, q1, rfl⟩ := av_popS hpop hc0
                have hlen9 := av_take (z := s0.heap.size) (kr := kr) hbl
                rcases hp7 with ⟨g, -⟩ | ⟨g, -⟩ | ⟨-, gs⟩
                · omega
                · omega
                · refine va_runS (As := ((st.take x.2.2.2.1).reverse).map (av_ev s0.heap.size kr)) (Ts := []) ⟨C.1, C.2.1, C.2.2.1, C.2.2.2.1, fun w hw => by cases hw⟩ hMt ⟨av_CB hZ1 hW rfl rfl hfrm hlom hp3 hp4 hlk hp5 hp6, av_go hZ1 hW gs rfl⟩ ⟨av_blindM, hPre⟩ rfl (hlen9.trans hna.symm) hL.1 ?_ (lv_room (by rw [av_cats]; exact q1)) hdec hroom
                  show st.map (av_ev s0.heap.size kr) = _
                  conv => lhs; rw [hst, hdrop]
                  simp
          · cases hs
        · cases hs
