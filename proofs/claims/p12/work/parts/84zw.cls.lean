/-! THE CLASS'S OWN BOOK: cases, laws, clauses well formed, what is sure; what changes leave it -/
/-- a shelf of well formed things -/
def WSH (h : av_H) (o : Nat) : Prop := (∀ i : Nat, i < 16 → (i : Int) < hF h o 3 → ∃ t c s f, CC h (hR h (o + 1) i) t c s f ∧ ∀ q, q < s → WRW (i : Int) q f) ∧ (∀ l : Nat, l < 8 → (l : Int) < hF h o 4 → RLW (hA h (o + 3 + l))) ∧ (∀ c : Nat, c < 6 → (c : Int) < hF h o 5 → RQW (hA h (o + 12 + c)))
def WXI (h : av_H) : Prop := ∀ i : Nat, i < 4 → (i : Int) < hF h 0 7 → ∃ o, hR h 21 i = some o ∧ 122 ≤ o ∧ o + 18 ≤ h.1 ∧ WSH h o
/-- the cases as pictures U, S -/
def PIC (U : Nat → Nat → Int) (S : Nat → Nat) (h : av_H) : Prop := ∀ i : Nat, i < 16 → (i : Int) < hF h 3 3 → ∃ t c f, CC h (hR h 4 i) t c (S i) f ∧ U i = ctn f (S i) ∧ ∀ q, q < S i → WRW (i : Int) q f
def CLU (U : Nat → Nat → Int) (S : Nat → Nat) (h : av_H) : Prop := PIC U S h ∧ (∀ l : Nat, l < 8 → (l : Int) < hF h 3 4 → RLW (hA h (6 + l))) ∧ (∀ c : Nat, c < 6 → (c : Int) < hF h 3 5 → RQW (hA h (15 + c))) ∧ WXI h
def CLS (h : av_H) : Prop := ∃ U S, CLU U S h ∧ SUA U S (hF h 3 3) (hF h 3 4) (fun k => hA h (6 + k)) (hA h 27)
/-- what the class's book looks at stays, but for what is sure -/
def CF0 (g h : av_H) : Prop := g.1 ≤ h.1 ∧ (hF h 3 3 = hF g 3 3 ∧ hF h 3 4 = hF g 3 4 ∧ hF h 3 5 = hF g 3 5 ∧ hF h 0 7 = hF g 0 7) ∧ (hR h 4 = hR g 4 ∧ hR h 21 = hR g 21) ∧ (∀ q, 6 ≤ q → q < 21 → hA h q = hA g q) ∧ ∀ q, 122 ≤ q → q < g.1 → hK h q = hK g q ∧ (∀ j, hG h q j = hG g q j) ∧ hA h q = hA g q ∧ hR h q = hR g q ∧ ∀ j, hF h q j = hF g q j
theorem CF0_rf (h : av_H) : CF0 h h := ⟨Nat.le_refl _, ⟨rfl, rfl, rfl, rfl⟩, ⟨rfl, rfl⟩, fun _ _ _ => rfl, fun _ _ _ => ⟨rfl, fun _ => rfl, rfl, rfl, fun _ => rfl⟩⟩
theorem CF0_tr {g h k : av_H} (a : CF0 g h) (b : CF0 h k) : CF0 g k := by
  obtain ⟨a1, ⟨a2, a3, a4, a5⟩, ⟨a6, a7⟩, a8, a9⟩ := a
  obtain ⟨b1, ⟨b2, b3, b4, b5⟩, ⟨b6, b7⟩, b8, b9⟩ := b
  refine ⟨Nat.le_trans a1 b1, ⟨b2.trans a2, b3.trans a3, b4.trans a4, b5.trans a5⟩, ⟨b6.trans a6, b7.trans a7⟩, fun q h1 h2 => (b8 q h1 h2).trans (a8 q h1 h2), fun q h1 h2 => ?_⟩
  obtain ⟨x1, x2, x3, x4, x5⟩ := a9 q h1 h2
  obtain ⟨y1, y2, y3, y4, y5⟩ := b9 q h1 (by omega)
  exact ⟨y1.trans x1, fun j => (y2 j).trans (x2 j), y3.trans x3, y4.trans x4, fun j => (y5 j).trans (x5 j)⟩
section
variable {g h : av_H}
theorem CC_cf {v : Option Nat} {t c s : Nat} {f : Nat → Int} (G : av_Gd g) (F : ∀ q, 122 ≤ q → q < g.1 → hK h q = hK g q ∧ (∀ j, hG h q j = hG g q j) ∧ hA h q = hA g q ∧ hR h q = hR g q ∧ ∀ j, hF h q j = hF g q j) (x : CC g v t c s f) : CC h v t c s f := by
  obtain ⟨y1, ⟨o1, o2, o3, o4, o5, o6⟩, y3, y4, y5, y6, y7⟩ := x
  obtain ⟨t1, t2, t3, t4, t5⟩ := F t y5 (gd_lt G o1 (by decide))
  obtain ⟨c1, c2, c3, c4, c5⟩ := F c y6 (gd_lt G o5 (by decide))
  exact ⟨y1, ⟨t1.trans o1, (t5 1).trans o2, (t5 3).trans o3, (t2 0).trans o4, c1.trans o5, c3.trans o6⟩, y3, y4, y5, y6, y7⟩
theorem WSH_cf {o : Nat} (G : av_Gd g) (F : ∀ q, 122 ≤ q → q < g.1 → hK h q = hK g q ∧ (∀ j, hG h q j = hG g q j) ∧ hA h q = hA g q ∧ hR h q = hR g q ∧ ∀ j, hF h q j = hF g q j) (h1 : 122 ≤ o) (h2 : o + 18 ≤ g.1) (x : WSH g o) : WSH h o := by
  obtain ⟨x1, x2, x3⟩ := x
  have fo := (F o h1 (by omega)).2.2.2.2
  refine ⟨fun i hi hh => ?_, fun l hl hh => ?_, fun c hc hh => ?_⟩
  · rw [fo 3] at hh
    obtain ⟨t, c, s, f, y1, y2⟩ := x1 i hi hh
    exact ⟨t, c, s, f, by rw [(F (o + 1) (by omega) (by omega)).2.2.2.1]; exact CC_cf G F y1, y2⟩
  · rw [fo 4] at hh
    rw [(F (o + 3 + l) (by omega) (by omega)).2.2.1]
    exact x2 l hl hh
  · rw [fo 5] at hh
    rw [(F (o + 12 + c) (by omega) (by omega)).2.2.1]
    exact x3 c hc hh
theorem CLU_cf {U : Nat → Nat → Int} {S : Nat → Nat} (G : av_Gd g) (F : CF0 g h) (x : CLU U S g) : CLU U S h := by
  obtain ⟨f1, ⟨f2, f3, f4, f5⟩, ⟨f6, f7⟩, f8, f9⟩ := F
  obtain ⟨x1, x2, x3, x4⟩ := x
  refine ⟨fun i hi hh => ?_, fun l hl hh => ?_, fun c hc hh => ?_, fun i hi hh => ?_⟩
  · rw [f2] at hh
    obtain ⟨t, c, f, y1, y2⟩ := x1 i hi hh
    exact ⟨t, c, f, by rw [f6]; exact CC_cf G f9 y1, y2⟩
  · rw [f3] at hh
    rw [f8 _ (by omega) (by omega)]
    exact x2 l hl hh
  · rw [f4] at hh
    rw [f8 _ (by omega) (by omega)]
    exact x3 c hc hh
  · rw [f5] at hh
    obtain ⟨o, y1, y2, y3, y4⟩ := x4 i hi hh
    exact ⟨o, by rw [f7]; exact y1, y2, by omega, WSH_cf G f9 y2 y3 y4⟩
theorem SUA_c {U : Nat → Nat → Int} {S : Nat → Nat} {n L : Int} {ro ro' : Nat → Nat → Int} {sr : Nat → Int} (x : SUA U S n L ro sr) (e : ∀ l : Nat, l < 8 → (l : Int) < L → ro' l = ro l) : SUA U S n L ro' sr := fun l hl => ⟨fun h1 i hi => by
  rw [e l hl h1]
  exact (x l hl).1 h1 i hi, (x l hl).2⟩
/-- nothing is known -/
theorem SUA_0 {U : Nat → Nat → Int} {S : Nat → Nat} {n L : Int} {ro : Nat → Nat → Int} {sr : Nat → Int} (e : ∀ j, j < 144 → sr j = 0) : SUA U S n L ro sr := fun l hl => ⟨fun _ i hi => Or.inl (e _ (by omega)), fun _ i hi => e _ (by omega)⟩
theorem CLS_cf (G : av_Gd g) (F : CF0 g h) (e : hA h 27 = hA g 27) (x : CLS g) : CLS h := by
  obtain ⟨U, S, x1, x2⟩ := x
  refine ⟨U, S, CLU_cf G F x1, ?_⟩
  obtain ⟨f1, ⟨f2, f3, f4, f5⟩, ⟨f6, f7⟩, f8, f9⟩ := F
  rw [f2, f3, e]
  exact SUA_c x2 (fun l h1 _ => f8 _ (by omega) (by omega))
end
theorem CF0_fq {eA eR : Nat → Prop} {eF eG : Nat → Nat → Prop} {g h : av_H} {n m : Nat} (G : av_Gd g) (L : LY g) (w : LOW eA eR eF eG) (F : FQ eA eR eF eG g h n m) (nF : ¬ eF 3 3 ∧ ¬ eF 3 4 ∧ ¬ eF 3 5 ∧ ¬ eF 0 7) (nR : ¬ eR 4 ∧ ¬ eR 21) (nA : ∀ q, 6 ≤ q → q < 21 → ¬ eA q) : CF0 g h := by
  have l : ∀ {q : Nat}, q < 122 → q < g.1 := fun hq => ly_lt G L hq
  have f3 := (F.2.2 3 (l (by omega))).2.2.2.2
  refine ⟨by rw [F.1]; omega, ⟨f3 3 nF.1, f3 4 nF.2.1, f3 5 nF.2.2.1, (F.2.2 0 (l (by omega))).2.2.2.2 7 nF.2.2.2⟩, ⟨(F.2.2 4 (l (by omega))).2.2.2.1 nR.1, (F.2.2 21 (l (by omega))).2.2.2.1 nR.2⟩, fun q h1 h2 => (F.2.2 q (l (by omega))).2.2.1 (nA q h1 h2), fun q h1 h2 => ?_⟩
  obtain ⟨a1, a2, a3, a4, a5⟩ := F.2.2 q h2
  exact ⟨a1, fun j => a2 j (fun z => by have := w.2.2.2 q j z; omega), a3 (fun z => by have := w.1 q z; omega), a4 (fun z => by have := w.2.1 q z; omega), fun j => a5 j (fun z => by have := w.2.2.1 q j z; omega)⟩
theorem FQ_27 {eA eR : Nat → Prop} {eF eG : Nat → Nat → Prop} {g h : av_H} {n m : Nat} (G : av_Gd g) (L : LY g) (F : FQ eA eR eF eG g h n m) (e : ¬ eA 27) : hA h 27 = hA g 27 := (F.2.2 27 (ly_lt G L (by omega))).2.2.1 e
/-- the reference's looks, its readers, its copies leave the class alone -/
theorem CLS_FM {g h : av_H} (G : av_Gd g) (F : FM g h) (x : CLS g) : CLS h := by
  have f : ∀ q j, q ≠ 77 → hF h q j = hF g q j := fun q j hq => F.2.2.2.2.2.1 q j (by simp only [mF, nbeq hq, Bool.false_and])
  have a : ∀ q, q < 95 ∨ 121 < q → hA h q = hA g q := fun q hq => F.2.2.2.2.2.2 q (by
    rcases hq with z | z
    · simp only [mA, nble (show q < 95 by omega), Bool.false_and]
    · simp only [mA, nble (show 121 < q by omega), Bool.and_false])
  refine CLS_cf G ⟨by rw [F.1]; exact Nat.le_refl _, ⟨f 3 3 (by decide), f 3 4 (by decide), f 3 5 (by decide), f 0 7 (by decide)⟩, ⟨congrFun F.2.2.2.1 4, congrFun F.2.2.2.1 21⟩, fun q h1 h2 => a q (by omega), fun q h1 h2 => ⟨congrFun F.2.2.1 q, fun j => congrFun (congrFun F.2.2.2.2.1 q) j, a q (by omega), congrFun F.2.2.2.1 q, fun j => f q j (by omega)⟩⟩ (a 27 (by omega)) x
theorem CLS_md {eF : Nat → Nat → Prop} {g h : av_H} (G : av_Gd g) (L : LY g) (F : FQ mdA nun1 eF nun2 g h 0 0) (e : ∀ q j, eF q j → q = 77) (x : CLS g) : CLS h := by
  have w : LOW mdA nun1 eF nun2 := ⟨fun q e => by unfold mdA at e; omega, fun q e => e.elim, fun q j z => by have := e q j z; omega, fun q j e => e.elim⟩
  exact CLS_cf G (CF0_fq G L w F ⟨fun z => by have := e _ _ z; omega, fun z => by have := e _ _ z; omega, fun z => by have := e _ _ z; omega, fun z => by have := e _ _ z; omega⟩ ⟨fun z => z, fun z => z⟩ (fun q h1 h2 z => by unfold mdA at z; omega)) (FQ_27 G L F (fun z => by unfold mdA at z; omega)) x
theorem CLS_FD {g h : av_H} (G : av_Gd g) (L : LY g) (F : FD g h) (x : CLS g) : CLS h := CLS_md G L (FQ_mo (FQ_FD F) (fun q e => by unfold fdA2 at e; unfold mdA; omega) (fun _ e => e) (fun _ _ e => e) (fun _ _ e => e)) (fun q j z => by unfold fdF2 at z; exact z.1) x
/-- what is read alone leaves it -/
theorem CLS_rd {g h : av_H} (G : av_Gd g) (L : LY g) (F : FQ rdA2 nun1 rdF0 nun2 g h 0 0) (x : CLS g) : CLS h := CLS_cf G (CF0_fq G L rd_low1 F ⟨fun z => by unfold rdF0 at z; omega, fun z => by unfold rdF0 at z; omega, fun z => by unfold rdF0 at z; omega, fun z => by unfold rdF0 at z; omega⟩ ⟨fun z => z, fun z => z⟩ (fun q h1 h2 z => by unfold rdA2 at z; omega)) (FQ_27 G L F (fun z => by unfold rdA2 at z; omega)) x
/-! sureness looks at the cases before alone -/
theorem srt_c {U U' : Nat → Nat → Int} {S S' : Nat → Nat} {ro : Nat → Int} : ∀ n, (∀ j, j < n → U' j = U j ∧ S' j = S j) → srt U' S' ro n = srt U S ro n := by
  intro n
  induction n with
  | zero => intro _; funext j; rfl
  | succ n ih =>
    intro e
    have i := ih (fun j hj => e j (by omega))
    funext j
    show (if j = n then (@ite _ (SRE (U' n) ro (brv (U' n) (srt U' S' ro n)) (S' n)) (Classical.propDecidable _) 2 1) else srt U' S' ro n j) = (if j = n then (@ite _ (SRE (U n) ro (brv (U n) (srt U S ro n)) (S n)) (Classical.propDecidable _) 2 1) else srt U S ro n j)
    rw [i, (e n (by omega)).1, (e n (by omega)).2]
theorem sre_c {U U' : Nat → Nat → Int} {S S' : Nat → Nat} {ro : Nat → Int} {i : Nat} (e : ∀ j, j ≤ i → U' j = U j ∧ S' j = S j) : sre U' S' ro i = sre U S ro i := congrFun (srt_c (i + 1) (fun j hj => e j (by omega))) i
/-- one more case -/
theorem SUA_n {U U' : Nat → Nat → Int} {S S' : Nat → Nat} {n L : Int} {ro : Nat → Nat → Int} {sr : Nat → Int} (x : SUA U S n L ro sr) (e : ∀ j : Nat, (j : Int) < n → U' j = U j ∧ S' j = S j) : SUA U' S' (n + 1) L ro sr := fun l hl => ⟨fun h1 i hi => by
  rcases (x l hl).1 h1 i hi with z | z
  · exact Or.inl z
  · exact Or.inr ⟨by omega, by rw [z.2]; exact (sre_c (fun j hj => e j (by omega))).symm⟩, (x l hl).2⟩
/-- one more law -/
theorem SUA_l {U : Nat → Nat → Int} {S : Nat → Nat} {n L : Int} {ro ro' : Nat → Nat → Int} {sr : Nat → Int} (x : SUA U S n L ro sr) (e : ∀ l : Nat, l < 8 → (l : Int) < L → ro' l = ro l) : SUA U S n (L + 1) ro' sr := fun l hl => by
  refine ⟨fun h1 i hi => ?_, fun h1 i hi => (x l hl).2 (by omega) i hi⟩
  by_cases c : (l : Int) < L
  · rw [e l hl c]
    exact (x l hl).1 c i hi
  · exact Or.inl ((x l hl).2 (by omega) i hi)
