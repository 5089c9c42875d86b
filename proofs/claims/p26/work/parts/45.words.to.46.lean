section
/-! WORDS: which word of a list a token is, by its letters' number -/
def mtw (b : Nat → Int) (a p : Nat) (W : List Int) : Prop := p = a + W.length ∧ ∀ j, j < W.length → b (a + j) = W.getD j 0
theorem mtw_c {b : Nat → Int} {a p : Nat} {c : Int} {cs : List Int} : mtw b a p (c :: cs) ↔ (a < p ∧ b a = c) ∧ mtw b (a + 1) p cs := by
  unfold mtw
  constructor
  · intro h
    have h1 := h.1
    rw [List.length_cons] at h1
    refine ⟨⟨by omega, by have := h.2 0 (by simp); simpa using this⟩, by omega, fun j hj => ?_⟩
    have := h.2 (j + 1) (by rw [List.length_cons]; omega)
    rw [show a + 1 + j = a + (j + 1) by omega, this]
    rfl
  · intro h
    refine ⟨by rw [List.length_cons]; have := h.2.1; omega, fun j hj => ?_⟩
    cases j with
    | zero => exact h.1.2
    | succ j =>
      have := h.2.2 j (by rw [List.length_cons] at hj; omega)
      rw [show a + (j + 1) = a + 1 + j by omega, this]
      rfl
/-- a word, then a blank and more; a word at the end -/
theorem pkf_w {b : Nat → Int} {f p : Nat} {rest : List Int} {i : Int} : ∀ (W : List Int) (a : Nat) (al : Bool), (∀ c ∈ W, c ≠ 32) → ((al = true ∧ mtw b a p W) → pkf b f p (W ++ 32 :: rest) i a al = i) ∧ (¬ (al = true ∧ mtw b a p W) → pkf b f p (W ++ 32 :: rest) i a al = pkf b f p rest (i + 1) f true) := by
  intro W
  induction W with
  | nil =>
    intro a al _
    have hm : mtw b a p [] ↔ a = p := by
      unfold mtw
      simp only [List.length_nil]
      constructor
      · intro h; omega
      · intro h; exact ⟨by omega, fun j hj => by omega⟩
    constructor
    · intro h
      show (if (32 : Int) = 32 then (if al = true ∧ a = p then i else _) else _) = i
      rw [if_pos rfl, if_pos ⟨h.1, hm.mp h.2⟩]
    · intro h
      show (if (32 : Int) = 32 then (if al = true ∧ a = p then i else pkf b f p rest (i + 1) f true) else _) = _
      rw [if_pos rfl, if_neg (fun z => h ⟨z.1, hm.mpr z.2⟩)]
  | cons c cs ih =>
    intro a al hc
    have h32 : c ≠ 32 := hc c (List.mem_cons_self ..)
    have := ih (a + 1) (al && decide (a < p ∧ b a = c)) (fun d hd => hc d (List.mem_cons_of_mem _ hd))
    have e : pkf b f p (c :: cs ++ 32 :: rest) i a al = pkf b f p (cs ++ 32 :: rest) i (a + 1) (al && decide (a < p ∧ b a = c)) := if_neg h32
    rw [e]
    have hq : (al = true ∧ mtw b a p (c :: cs)) ↔ ((al && decide (a < p ∧ b a = c)) = true ∧ mtw b (a + 1) p cs) := by
      rw [mtw_c, Bool.and_eq_true, decide_eq_true_eq]
      exact ⟨fun h => ⟨⟨h.1, h.2.1⟩, h.2.2⟩, fun h => ⟨h.1.1, h.1.2, h.2⟩⟩
    rw [hq]
    exact this
theorem pkf_e {b : Nat → Int} {f p : Nat} {i : Int} : ∀ (W : List Int) (a : Nat) (al : Bool), (∀ c ∈ W, c ≠ 32) → ((al = true ∧ mtw b a p W) → pkf b f p W i a al = i) ∧ (¬ (al = true ∧ mtw b a p W) → pkf b f p W i a al = -1) := by
  intro W
  induction W with
  | nil =>
    intro a al _
    have hm : mtw b a p [] ↔ a = p := by
      unfold mtw
      simp only [List.length_nil]
      constructor
      · intro h; omega
      · intro h; exact ⟨by omega, fun j hj => by omega⟩
    constructor
    · intro h
      show (if al = true ∧ a = p then i else -1) = i
      rw [if_pos ⟨h.1, hm.mp h.2⟩]
    · intro h
      show (if al = true ∧ a = p then i else -1) = -1
      rw [if_neg (fun z => h ⟨z.1, hm.mpr z.2⟩)]
  | cons c cs ih =>
    intro a al hc
    have h32 : c ≠ 32 := hc c (List.mem_cons_self ..)
    have := ih (a + 1) (al && decide (a < p ∧ b a = c)) (fun d hd => hc d (List.mem_cons_of_mem _ hd))
    have e : pkf b f p (c :: cs) i a al = pkf b f p cs i (a + 1) (al && decide (a < p ∧ b a = c)) := if_neg h32
    rw [e]
    have hq : (al = true ∧ mtw b a p (c :: cs)) ↔ ((al && decide (a < p ∧ b a = c)) = true ∧ mtw b (a + 1) p cs) := by
      rw [mtw_c, Bool.and_eq_true, decide_eq_true_eq]
      exact ⟨fun h => ⟨⟨h.1, h.2.1⟩, h.2.2⟩, fun h => ⟨h.1.1, h.1.2, h.2⟩⟩
    rw [hq]
    exact this
/-- a word's number -/
def wcd (W : List Int) : Nat → Int
  | 0 => 0
  | n + 1 => wcd W n * 27 + (W.getD n 0 - 96)
theorem txt_big {b : Nat → Int} {f n : Nat} (h : 9 ≤ n) : txt b f n = -1 := by
  obtain ⟨m, rfl⟩ : ∃ m, n = m + 1 := ⟨n - 1, by omega⟩
  show (if m < 8 then _ else (-1 : Int)) = -1
  rw [if_neg (by omega)]
theorem txt_pos {b : Nat → Int} {f : Nat} : ∀ n, n ≤ 8 → (∀ i, i < n → 97 ≤ b (f + i) ∧ b (f + i) ≤ 122) → 0 ≤ txt b f n ∧ (0 < n → 0 < txt b f n) := by
  intro n
  induction n with
  | zero => intro _ _; exact ⟨Int.le_refl 0, fun h => absurd h (by omega)⟩
  | succ n ih =>
    intro hn hb
    have h1 := ih (by omega) (fun i hi => hb i (by omega))
    have h2 := hb n (by omega)
    have e : txt b f (n + 1) = txt b f n * 27 + (b (f + n) - 96) := if_pos (by omega)
    rw [e]
    omega
theorem wcd_pos {W : List Int} : ∀ n, (∀ i, i < n → 97 ≤ W.getD i 0 ∧ W.getD i 0 ≤ 122) → 0 ≤ wcd W n ∧ (0 < n → 0 < wcd W n) := by
  intro n
  induction n with
  | zero => intro _; exact ⟨Int.le_refl 0, fun h => absurd h (by omega)⟩
  | succ n ih =>
    intro hb
    have h1 := ih (fun i hi => hb i (by omega))
    have h2 := hb n (by omega)
    show 0 ≤ wcd W n * 27 + (W.getD n 0 - 96) ∧ (0 < n + 1 → 0 < wcd W n * 27 + (W.getD n 0 - 96))
    omega
theorem txt_inj {b : Nat → Int} {f : Nat} {W : List Int} : ∀ n m, n ≤ 8 → (∀ i, i < n → 97 ≤ b (f + i) ∧ b (f + i) ≤ 122) → (∀ i, i < m → 97 ≤ W.getD i 0 ∧ W.getD i 0 ≤ 122) → txt b f n = wcd W m → n = m ∧ ∀ i, i < n → b (f + i) = W.getD i 0 := by
  intro n
  induction n with
  | zero =>
    intro m _ _ hw e
    have h0 : txt b f 0 = 0 := rfl
    have := wcd_pos (W := W) m hw
    exact ⟨by omega, fun i hi => by omega⟩
  | succ n ih =>
    intro m hn hb hw e
    have e1 : txt b f (n + 1) = txt b f n * 27 + (b (f + n) - 96) := if_pos (by omega)
    have t1 := txt_pos n (by omega) (fun i hi => hb i (by omega))
    have t2 := hb n (by omega)
    cases m with
    | zero =>
      have h0 : wcd W 0 = 0 := rfl
      omega
    | succ m =>
      have e2 : wcd W (m + 1) = wcd W m * 27 + (W.getD m 0 - 96) := rfl
      have w1 := wcd_pos (W := W) m (fun i hi => hw i (by omega))
      have w2 := hw m (by omega)
      have h := ih m (by omega) (fun i hi => hb i (by omega)) (fun i hi => hw i (by omega)) (by omega)
      refine ⟨by omega, fun i hi => ?_⟩
      by_cases ei : i = n
      · subst ei
        have : b (f + i) = W.getD m 0 := by omega
        rw [this, h.1]
      · exact h.2 i (by omega)
theorem txt_wcd {b : Nat → Int} {f : Nat} {W : List Int} : ∀ n, n ≤ 8 → (∀ i, i < n → b (f + i) = W.getD i 0) → txt b f n = wcd W n := by
  intro n
  induction n with
  | zero => intro _ _; rfl
  | succ n ih =>
    intro hn hb
    have e1 : txt b f (n + 1) = txt b f n * 27 + (b (f + n) - 96) := if_pos (by omega)
    rw [e1, ih (by omega) (fun i hi => hb i (by omega)), hb n (by omega)]
    rfl
/-- a token of letters is a word just where its number is the word's -/
theorem txt_iff {b : Nat → Int} {f p : Nat} {W : List Int} (c : Int) (hc : wcd W W.length = c) (hl : Nat.ble W.length 8 = true) (hW : ∀ i, i < W.length → 97 ≤ W.getD i 0 ∧ W.getD i 0 ≤ 122) (hfp : f ≤ p) (hb : ∀ j, f ≤ j → j < p → 97 ≤ b j ∧ b j ≤ 122) : txt b f (p - f) = c ↔ mtw b f p W := by
  have hl' := Nat.le_of_ble_eq_true hl
  have hb' : ∀ i, i < p - f → 97 ≤ b (f + i) ∧ b (f + i) ≤ 122 := fun i hi => hb (f + i) (by omega) (by omega)
  have wp := wcd_pos (W := W) W.length hW
  constructor
  · intro h
    by_cases h8 : p - f ≤ 8
    · have := txt_inj (b := b) (f := f) (W := W) (p - f) W.length h8 hb' hW (by rw [h, hc])
      exact ⟨by omega, fun j hj => this.2 j (by omega)⟩
    · rw [txt_big (by omega)] at h
      omega
  · intro h
    have hp := h.1
    rw [show p - f = W.length by omega, ← hc]
    exact txt_wcd W.length hl' h.2
def wd_0_0 : List Int := [111, 102, 102, 101, 114]
theorem wd_0_0_i {b : Nat → Int} {f p : Nat} (hfp : f ≤ p) (hb : ∀ j, f ≤ j → j < p → 97 ≤ b j ∧ b j ≤ 122) : txt b f (p - f) = 8094240 ↔ mtw b f p wd_0_0 := txt_iff 8094240 (by decide) rfl (by decide) hfp hb
theorem wd_0_0_n : ∀ c ∈ wd_0_0, c ≠ 32 := by decide
def wd_0_1 : List Int := [97, 115, 107]
theorem wd_0_1_i {b : Nat → Int} {f p : Nat} (hfp : f ≤ p) (hb : ∀ j, f ≤ j → j < p → 97 ≤ b j ∧ b j ≤ 122) : txt b f (p - f) = 1253 ↔ mtw b f p wd_0_1 := txt_iff 1253 (by decide) rfl (by decide) hfp hb
theorem wd_0_1_n : ∀ c ∈ wd_0_1, c ≠ 32 := by decide
def wd_0_2 : List Int := [121, 101, 115]
theorem wd_0_2_i {b : Nat → Int} {f p : Nat} (hfp : f ≤ p) (hb : ∀ j, f ≤ j → j < p → 97 ≤ b j ∧ b j ≤ 122) : txt b f (p - f) = 18379 ↔ mtw b f p wd_0_2 := txt_iff 18379 (by decide) rfl (by decide) hfp hb
theorem wd_0_2_n : ∀ c ∈ wd_0_2, c ≠ 32 := by decide
def wd_0_3 : List Int := [110, 111]
theorem wd_0_3_i {b : Nat → Int} {f p : Nat} (hfp : f ≤ p) (hb : ∀ j, f ≤ j → j < p → 97 ≤ b j ∧ b j ≤ 122) : txt b f (p - f) = 393 ↔ mtw b f p wd_0_3 := txt_iff 393 (by decide) rfl (by decide) hfp hb
theorem wd_0_3_n : ∀ c ∈ wd_0_3, c ≠ 32 := by decide
def wd_0_4 : List Int := [98, 97, 99, 107]
theorem wd_0_4_i {b : Nat → Int} {f p : Nat} (hfp : f ≤ p) (hb : ∀ j, f ≤ j → j < p → 97 ≤ b j ∧ b j ≤ 122) : txt b f (p - f) = 40187 ↔ mtw b f p wd_0_4 := txt_iff 40187 (by decide) rfl (by decide) hfp hb
theorem wd_0_4_n : ∀ c ∈ wd_0_4, c ≠ 32 := by decide
def wd_0_5 : List Int := [100, 101, 101, 100]
theorem wd_0_5_i {b : Nat → Int} {f p : Nat} (hfp : f ≤ p) (hb : ∀ j, f ≤ j → j < p → 97 ≤ b j ∧ b j ≤ 122) : txt b f (p - f) = 82516 ↔ mtw b f p wd_0_5 := txt_iff 82516 (by decide) rfl (by decide) hfp hb
theorem wd_0_5_n : ∀ c ∈ wd_0_5, c ≠ 32 := by decide
def wd_0_6 : List Int := [115, 101, 110, 100]
theorem wd_0_6_i {b : Nat → Int} {f p : Nat} (hfp : f ≤ p) (hb : ∀ j, f ≤ j → j < p → 97 ≤ b j ∧ b j ≤ 122) : txt b f (p - f) = 378004 ↔ mtw b f p wd_0_6 := txt_iff 378004 (by decide) rfl (by decide) hfp hb
theorem wd_0_6_n : ∀ c ∈ wd_0_6, c ≠ 32 := by decide
theorem ltw_0 {b : Nat → Int} {f p : Nat} (hfp : f ≤ p) (hb : ∀ j, f ≤ j → j < p → 97 ≤ b j ∧ b j ≤ 122) : pkf b f p (av_lit 0) 0 f true = (if txt b f (p - f) = 8094240 then 0 else (if txt b f (p - f) = 1253 then 1 else (if txt b f (p - f) = 18379 then 2 else (if txt b f (p - f) = 393 then 3 else (if txt b f (p - f) = 40187 then 4 else (if txt b f (p - f) = 82516 then 5 else (if txt b f (p - f) = 378004 then 6 else -1))))))) := by
  rw [show av_lit 0 = wd_0_0 ++ 32 :: (wd_0_1 ++ 32 :: (wd_0_2 ++ 32 :: (wd_0_3 ++ 32 :: (wd_0_4 ++ 32 :: (wd_0_5 ++ 32 :: (wd_0_6)))))) from rfl]
  by_cases e0 : txt b f (p - f) = 8094240
  · rw [if_pos e0]; exact (pkf_w (i := 0) wd_0_0 f true wd_0_0_n).1 ⟨rfl, (wd_0_0_i hfp hb).mp e0⟩
  rw [if_neg e0, (pkf_w (i := 0) wd_0_0 f true wd_0_0_n).2 (fun z => e0 ((wd_0_0_i hfp hb).mpr z.2))]
  by_cases e1 : txt b f (p - f) = 1253
  · rw [if_pos e1]; exact (pkf_w (i := 0 + 1) wd_0_1 f true wd_0_1_n).1 ⟨rfl, (wd_0_1_i hfp hb).mp e1⟩
  rw [if_neg e1, (pkf_w (i := 0 + 1) wd_0_1 f true wd_0_1_n).2 (fun z => e1 ((wd_0_1_i hfp hb).mpr z.2))]
  by_cases e2 : txt b f (p - f) = 18379
  · rw [if_pos e2]; exact (pkf_w (i := 0 + 1 + 1) wd_0_2 f true wd_0_2_n).1 ⟨rfl, (wd_0_2_i hfp hb).mp e2⟩
  rw [if_neg e2, (pkf_w (i := 0 + 1 + 1) wd_0_2 f true wd_0_2_n).2 (fun z => e2 ((wd_0_2_i hfp hb).mpr z.2))]
  by_cases e3 : txt b f (p - f) = 393
  · rw [if_pos e3]; exact (pkf_w (i := 0 + 1 + 1 + 1) wd_0_3 f true wd_0_3_n).1 ⟨rfl, (wd_0_3_i hfp hb).mp e3⟩
  rw [if_neg e3, (pkf_w (i := 0 + 1 + 1 + 1) wd_0_3 f true wd_0_3_n).2 (fun z => e3 ((wd_0_3_i hfp hb).mpr z.2))]
  by_cases e4 : txt b f (p - f) = 40187
  · rw [if_pos e4]; exact (pkf_w (i := 0 + 1 + 1 + 1 + 1) wd_0_4 f true wd_0_4_n).1 ⟨rfl, (wd_0_4_i hfp hb).mp e4⟩
  rw [if_neg e4, (pkf_w (i := 0 + 1 + 1 + 1 + 1) wd_0_4 f true wd_0_4_n).2 (fun z => e4 ((wd_0_4_i hfp hb).mpr z.2))]
  by_cases e5 : txt b f (p - f) = 82516
  · rw [if_pos e5]; exact (pkf_w (i := 0 + 1 + 1 + 1 + 1 + 1) wd_0_5 f true wd_0_5_n).1 ⟨rfl, (wd_0_5_i hfp hb).mp e5⟩
  rw [if_neg e5, (pkf_w (i := 0 + 1 + 1 + 1 + 1 + 1) wd_0_5 f true wd_0_5_n).2 (fun z => e5 ((wd_0_5_i hfp hb).mpr z.2))]
  by_cases e6 : txt b f (p - f) = 378004
  · rw [if_pos e6]; exact (pkf_e (i := 0 + 1 + 1 + 1 + 1 + 1 + 1) wd_0_6 f true wd_0_6_n).1 ⟨rfl, (wd_0_6_i hfp hb).mp e6⟩
  rw [if_neg e6]; exact (pkf_e (i := 0 + 1 + 1 + 1 + 1 + 1 + 1) wd_0_6 f true wd_0_6_n).2 (fun z => e6 ((wd_0_6_i hfp hb).mpr z.2))
def wd_1_0 : List Int := [97]
theorem wd_1_0_i {b : Nat → Int} {f p : Nat} (hfp : f ≤ p) (hb : ∀ j, f ≤ j → j < p → 97 ≤ b j ∧ b j ≤ 122) : txt b f (p - f) = 1 ↔ mtw b f p wd_1_0 := txt_iff 1 (by decide) rfl (by decide) hfp hb
theorem wd_1_0_n : ∀ c ∈ wd_1_0, c ≠ 32 := by decide
def wd_1_1 : List Int := [98]
theorem wd_1_1_i {b : Nat → Int} {f p : Nat} (hfp : f ≤ p) (hb : ∀ j, f ≤ j → j < p → 97 ≤ b j ∧ b j ≤ 122) : txt b f (p - f) = 2 ↔ mtw b f p wd_1_1 := txt_iff 2 (by decide) rfl (by decide) hfp hb
theorem wd_1_1_n : ∀ c ∈ wd_1_1, c ≠ 32 := by decide
def wd_1_2 : List Int := [99]
theorem wd_1_2_i {b : Nat → Int} {f p : Nat} (hfp : f ≤ p) (hb : ∀ j, f ≤ j → j < p → 97 ≤ b j ∧ b j ≤ 122) : txt b f (p - f) = 3 ↔ mtw b f p wd_1_2 := txt_iff 3 (by decide) rfl (by decide) hfp hb
theorem wd_1_2_n : ∀ c ∈ wd_1_2, c ≠ 32 := by decide
theorem ltw_1 {b : Nat → Int} {f p : Nat} (hfp : f ≤ p) (hb : ∀ j, f ≤ j → j < p → 97 ≤ b j ∧ b j ≤ 122) : pkf b f p (av_lit 1) 0 f true = (if txt b f (p - f) = 1 then 0 else (if txt b f (p - f) = 2 then 1 else (if txt b f (p - f) = 3 then 2 else -1))) := by
  rw [show av_lit 1 = wd_1_0 ++ 32 :: (wd_1_1 ++ 32 :: (wd_1_2)) from rfl]
  by_cases e0 : txt b f (p - f) = 1
  · rw [if_pos e0]; exact (pkf_w (i := 0) wd_1_0 f true wd_1_0_n).1 ⟨rfl, (wd_1_0_i hfp hb).mp e0⟩
  rw [if_neg e0, (pkf_w (i := 0) wd_1_0 f true wd_1_0_n).2 (fun z => e0 ((wd_1_0_i hfp hb).mpr z.2))]
  by_cases e1 : txt b f (p - f) = 2
  · rw [if_pos e1]; exact (pkf_w (i := 0 + 1) wd_1_1 f true wd_1_1_n).1 ⟨rfl, (wd_1_1_i hfp hb).mp e1⟩
  rw [if_neg e1, (pkf_w (i := 0 + 1) wd_1_1 f true wd_1_1_n).2 (fun z => e1 ((wd_1_1_i hfp hb).mpr z.2))]
  by_cases e2 : txt b f (p - f) = 3
  · rw [if_pos e2]; exact (pkf_e (i := 0 + 1 + 1) wd_1_2 f true wd_1_2_n).1 ⟨rfl, (wd_1_2_i hfp hb).mp e2⟩
  rw [if_neg e2]; exact (pkf_e (i := 0 + 1 + 1) wd_1_2 f true wd_1_2_n).2 (fun z => e2 ((wd_1_2_i hfp hb).mpr z.2))
def wd_2_0 : List Int := [112, 114, 105, 99, 101]
theorem wd_2_0_i {b : Nat → Int} {f p : Nat} (hfp : f ≤ p) (hb : ∀ j, f ≤ j → j < p → 97 ≤ b j ∧ b j ≤ 122) : txt b f (p - f) = 8863997 ↔ mtw b f p wd_2_0 := txt_iff 8863997 (by decide) rfl (by decide) hfp hb
theorem wd_2_0_n : ∀ c ∈ wd_2_0, c ≠ 32 := by decide
def wd_2_1 : List Int := [109, 117, 99, 104]
theorem wd_2_1_i {b : Nat → Int} {f p : Nat} (hfp : f ≤ p) (hb : ∀ j, f ≤ j → j < p → 97 ≤ b j ∧ b j ≤ 122) : txt b f (p - f) = 271277 ↔ mtw b f p wd_2_1 := txt_iff 271277 (by decide) rfl (by decide) hfp hb
theorem wd_2_1_n : ∀ c ∈ wd_2_1, c ≠ 32 := by decide
def wd_2_2 : List Int := [100, 97, 121]
theorem wd_2_2_i {b : Nat → Int} {f p : Nat} (hfp : f ≤ p) (hb : ∀ j, f ≤ j → j < p → 97 ≤ b j ∧ b j ≤ 122) : txt b f (p - f) = 2968 ↔ mtw b f p wd_2_2 := txt_iff 2968 (by decide) rfl (by decide) hfp hb
theorem wd_2_2_n : ∀ c ∈ wd_2_2, c ≠ 32 := by decide
def wd_2_3 : List Int := [112, 111, 114, 116]
theorem wd_2_3_i {b : Nat → Int} {f p : Nat} (hfp : f ≤ p) (hb : ∀ j, f ≤ j → j < p → 97 ≤ b j ∧ b j ≤ 122) : txt b f (p - f) = 326369 ↔ mtw b f p wd_2_3 := txt_iff 326369 (by decide) rfl (by decide) hfp hb
theorem wd_2_3_n : ∀ c ∈ wd_2_3, c ≠ 32 := by decide
def wd_2_4 : List Int := [99, 111, 117, 114, 116]
theorem wd_2_4_i {b : Nat → Int} {f p : Nat} (hfp : f ≤ p) (hb : ∀ j, f ≤ j → j < p → 97 ≤ b j ∧ b j ≤ 122) : txt b f (p - f) = 1905383 ↔ mtw b f p wd_2_4 := txt_iff 1905383 (by decide) rfl (by decide) hfp hb
theorem wd_2_4_n : ∀ c ∈ wd_2_4, c ≠ 32 := by decide
theorem ltw_2 {b : Nat → Int} {f p : Nat} (hfp : f ≤ p) (hb : ∀ j, f ≤ j → j < p → 97 ≤ b j ∧ b j ≤ 122) : pkf b f p (av_lit 2) 0 f true = (if txt b f (p - f) = 8863997 then 0 else (if txt b f (p - f) = 271277 then 1 else (if txt b f (p - f) = 2968 then 2 else (if txt b f (p - f) = 326369 then 3 else (if txt b f (p - f) = 1905383 then 4 else -1))))) := by
  rw [show av_lit 2 = wd_2_0 ++ 32 :: (wd_2_1 ++ 32 :: (wd_2_2 ++ 32 :: (wd_2_3 ++ 32 :: (wd_2_4)))) from rfl]
  by_cases e0 : txt b f (p - f) = 8863997
  · rw [if_pos e0]; exact (pkf_w (i := 0) wd_2_0 f true wd_2_0_n).1 ⟨rfl, (wd_2_0_i hfp hb).mp e0⟩
  rw [if_neg e0, (pkf_w (i := 0) wd_2_0 f true wd_2_0_n).2 (fun z => e0 ((wd_2_0_i hfp hb).mpr z.2))]
  by_cases e1 : txt b f (p - f) = 271277
  · rw [if_pos e1]; exact (pkf_w (i := 0 + 1) wd_2_1 f true wd_2_1_n).1 ⟨rfl, (wd_2_1_i hfp hb).mp e1⟩
  rw [if_neg e1, (pkf_w (i := 0 + 1) wd_2_1 f true wd_2_1_n).2 (fun z => e1 ((wd_2_1_i hfp hb).mpr z.2))]
  by_cases e2 : txt b f (p - f) = 2968
  · rw [if_pos e2]; exact (pkf_w (i := 0 + 1 + 1) wd_2_2 f true wd_2_2_n).1 ⟨rfl, (wd_2_2_i hfp hb).mp e2⟩
  rw [if_neg e2, (pkf_w (i := 0 + 1 + 1) wd_2_2 f true wd_2_2_n).2 (fun z => e2 ((wd_2_2_i hfp hb).mpr z.2))]
  by_cases e3 : txt b f (p - f) = 326369
  · rw [if_pos e3]; exact (pkf_w (i := 0 + 1 + 1 + 1) wd_2_3 f true wd_2_3_n).1 ⟨rfl, (wd_2_3_i hfp hb).mp e3⟩
  rw [if_neg e3, (pkf_w (i := 0 + 1 + 1 + 1) wd_2_3 f true wd_2_3_n).2 (fun z => e3 ((wd_2_3_i hfp hb).mpr z.2))]
  by_cases e4 : txt b f (p - f) = 1905383
  · rw [if_pos e4]; exact (pkf_e (i := 0 + 1 + 1 + 1 + 1) wd_2_4 f true wd_2_4_n).1 ⟨rfl, (wd_2_4_i hfp hb).mp e4⟩
  rw [if_neg e4]; exact (pkf_e (i := 0 + 1 + 1 + 1 + 1) wd_2_4 f true wd_2_4_n).2 (fun z => e4 ((wd_2_4_i hfp hb).mpr z.2))
def wd_3_0 : List Int := [104, 111, 108, 100]
theorem wd_3_0_i {b : Nat → Int} {f p : Nat} (hfp : f ≤ p) (hb : ∀ j, f ≤ j → j < p → 97 ≤ b j ∧ b j ≤ 122) : txt b f (p - f) = 168727 ↔ mtw b f p wd_3_0 := txt_iff 168727 (by decide) rfl (by decide) hfp hb
theorem wd_3_0_n : ∀ c ∈ wd_3_0, c ≠ 32 := by decide
theorem ltw_3 {b : Nat → Int} {f p : Nat} (hfp : f ≤ p) (hb : ∀ j, f ≤ j → j < p → 97 ≤ b j ∧ b j ≤ 122) : pkf b f p (av_lit 3) 0 f true = (if txt b f (p - f) = 168727 then 0 else -1) := by
  rw [show av_lit 3 = wd_3_0 from rfl]
  by_cases e0 : txt b f (p - f) = 168727
  · rw [if_pos e0]; exact (pkf_e (i := 0) wd_3_0 f true wd_3_0_n).1 ⟨rfl, (wd_3_0_i hfp hb).mp e0⟩
  rw [if_neg e0]; exact (pkf_e (i := 0) wd_3_0 f true wd_3_0_n).2 (fun z => e0 ((wd_3_0_i hfp hb).mpr z.2))
def wd_4_0 : List Int := [103, 105, 118, 101, 110]
theorem wd_4_0_i {b : Nat → Int} {f p : Nat} (hfp : f ≤ p) (hb : ∀ j, f ≤ j → j < p → 97 ≤ b j ∧ b j ≤ 122) : txt b f (p - f) = 3913421 ↔ mtw b f p wd_4_0 := txt_iff 3913421 (by decide) rfl (by decide) hfp hb
theorem wd_4_0_n : ∀ c ∈ wd_4_0, c ≠ 32 := by decide
theorem ltw_4 {b : Nat → Int} {f p : Nat} (hfp : f ≤ p) (hb : ∀ j, f ≤ j → j < p → 97 ≤ b j ∧ b j ≤ 122) : pkf b f p (av_lit 4) 0 f true = (if txt b f (p - f) = 3913421 then 0 else -1) := by
  rw [show av_lit 4 = wd_4_0 from rfl]
  by_cases e0 : txt b f (p - f) = 3913421
  · rw [if_pos e0]; exact (pkf_e (i := 0) wd_4_0 f true wd_4_0_n).1 ⟨rfl, (wd_4_0_i hfp hb).mp e0⟩
  rw [if_neg e0]; exact (pkf_e (i := 0) wd_4_0 f true wd_4_0_n).2 (fun z => e0 ((wd_4_0_i hfp hb).mpr z.2))
def wd_5_0 : List Int := [98, 117, 116]
theorem wd_5_0_i {b : Nat → Int} {f p : Nat} (hfp : f ≤ p) (hb : ∀ j, f ≤ j → j < p → 97 ≤ b j ∧ b j ≤ 122) : txt b f (p - f) = 2045 ↔ mtw b f p wd_5_0 := txt_iff 2045 (by decide) rfl (by decide) hfp hb
theorem wd_5_0_n : ∀ c ∈ wd_5_0, c ≠ 32 := by decide
theorem ltw_5 {b : Nat → Int} {f p : Nat} (hfp : f ≤ p) (hb : ∀ j, f ≤ j → j < p → 97 ≤ b j ∧ b j ≤ 122) : pkf b f p (av_lit 5) 0 f true = (if txt b f (p - f) = 2045 then 0 else -1) := by
  rw [show av_lit 5 = wd_5_0 from rfl]
  by_cases e0 : txt b f (p - f) = 2045
  · rw [if_pos e0]; exact (pkf_e (i := 0) wd_5_0 f true wd_5_0_n).1 ⟨rfl, (wd_5_0_i hfp hb).mp e0⟩
  rw [if_neg e0]; exact (pkf_e (i := 0) wd_5_0 f true wd_5_0_n).2 (fun z => e0 ((wd_5_0_i hfp hb).mpr z.2))
def wd_6_0 : List Int := [112, 111, 115, 116]
theorem wd_6_0_i {b : Nat → Int} {f p : Nat} (hfp : f ≤ p) (hb : ∀ j, f ≤ j → j < p → 97 ≤ b j ∧ b j ≤ 122) : txt b f (p - f) = 326396 ↔ mtw b f p wd_6_0 := txt_iff 326396 (by decide) rfl (by decide) hfp hb
theorem wd_6_0_n : ∀ c ∈ wd_6_0, c ≠ 32 := by decide
def wd_6_1 : List Int := [119, 105, 114, 101]
theorem wd_6_1_i {b : Nat → Int} {f p : Nat} (hfp : f ≤ p) (hb : ∀ j, f ≤ j → j < p → 97 ≤ b j ∧ b j ≤ 122) : txt b f (p - f) = 459761 ↔ mtw b f p wd_6_1 := txt_iff 459761 (by decide) rfl (by decide) hfp hb
theorem wd_6_1_n : ∀ c ∈ wd_6_1, c ≠ 32 := by decide
def wd_6_2 : List Int := [109, 111, 117, 116, 104]
theorem wd_6_2_i {b : Nat → Int} {f p : Nat} (hfp : f ≤ p) (hb : ∀ j, f ≤ j → j < p → 97 ≤ b j ∧ b j ≤ 122) : txt b f (p - f) = 7219835 ↔ mtw b f p wd_6_2 := txt_iff 7219835 (by decide) rfl (by decide) hfp hb
theorem wd_6_2_n : ∀ c ∈ wd_6_2, c ≠ 32 := by decide
def wd_6_3 : List Int := [100, 101, 101, 100]
theorem wd_6_3_i {b : Nat → Int} {f p : Nat} (hfp : f ≤ p) (hb : ∀ j, f ≤ j → j < p → 97 ≤ b j ∧ b j ≤ 122) : txt b f (p - f) = 82516 ↔ mtw b f p wd_6_3 := txt_iff 82516 (by decide) rfl (by decide) hfp hb
theorem wd_6_3_n : ∀ c ∈ wd_6_3, c ≠ 32 := by decide
theorem ltw_6 {b : Nat → Int} {f p : Nat} (hfp : f ≤ p) (hb : ∀ j, f ≤ j → j < p → 97 ≤ b j ∧ b j ≤ 122) : pkf b f p (av_lit 6) 0 f true = (if txt b f (p - f) = 326396 then 0 else (if txt b f (p - f) = 459761 then 1 else (if txt b f (p - f) = 7219835 then 2 else (if txt b f (p - f) = 82516 then 3 else -1)))) := by
  rw [show av_lit 6 = wd_6_0 ++ 32 :: (wd_6_1 ++ 32 :: (wd_6_2 ++ 32 :: (wd_6_3))) from rfl]
  by_cases e0 : txt b f (p - f) = 326396
  · rw [if_pos e0]; exact (pkf_w (i := 0) wd_6_0 f true wd_6_0_n).1 ⟨rfl, (wd_6_0_i hfp hb).mp e0⟩
  rw [if_neg e0, (pkf_w (i := 0) wd_6_0 f true wd_6_0_n).2 (fun z => e0 ((wd_6_0_i hfp hb).mpr z.2))]
  by_cases e1 : txt b f (p - f) = 459761
  · rw [if_pos e1]; exact (pkf_w (i := 0 + 1) wd_6_1 f true wd_6_1_n).1 ⟨rfl, (wd_6_1_i hfp hb).mp e1⟩
  rw [if_neg e1, (pkf_w (i := 0 + 1) wd_6_1 f true wd_6_1_n).2 (fun z => e1 ((wd_6_1_i hfp hb).mpr z.2))]
  by_cases e2 : txt b f (p - f) = 7219835
  · rw [if_pos e2]; exact (pkf_w (i := 0 + 1 + 1) wd_6_2 f true wd_6_2_n).1 ⟨rfl, (wd_6_2_i hfp hb).mp e2⟩
  rw [if_neg e2, (pkf_w (i := 0 + 1 + 1) wd_6_2 f true wd_6_2_n).2 (fun z => e2 ((wd_6_2_i hfp hb).mpr z.2))]
  by_cases e3 : txt b f (p - f) = 82516
  · rw [if_pos e3]; exact (pkf_e (i := 0 + 1 + 1 + 1) wd_6_3 f true wd_6_3_n).1 ⟨rfl, (wd_6_3_i hfp hb).mp e3⟩
  rw [if_neg e3]; exact (pkf_e (i := 0 + 1 + 1 + 1) wd_6_3 f true wd_6_3_n).2 (fun z => e3 ((wd_6_3_i hfp hb).mpr z.2))
def wd_7_0 : List Int := [97, 116]
theorem wd_7_0_i {b : Nat → Int} {f p : Nat} (hfp : f ≤ p) (hb : ∀ j, f ≤ j → j < p → 97 ≤ b j ∧ b j ≤ 122) : txt b f (p - f) = 47 ↔ mtw b f p wd_7_0 := txt_iff 47 (by decide) rfl (by decide) hfp hb
theorem wd_7_0_n : ∀ c ∈ wd_7_0, c ≠ 32 := by decide
theorem ltw_7 {b : Nat → Int} {f p : Nat} (hfp : f ≤ p) (hb : ∀ j, f ≤ j → j < p → 97 ≤ b j ∧ b j ≤ 122) : pkf b f p (av_lit 7) 0 f true = (if txt b f (p - f) = 47 then 0 else -1) := by
  rw [show av_lit 7 = wd_7_0 from rfl]
  by_cases e0 : txt b f (p - f) = 47
  · rw [if_pos e0]; exact (pkf_e (i := 0) wd_7_0 f true wd_7_0_n).1 ⟨rfl, (wd_7_0_i hfp hb).mp e0⟩
  rw [if_neg e0]; exact (pkf_e (i := 0) wd_7_0 f true wd_7_0_n).2 (fun z => e0 ((wd_7_0_i hfp hb).mpr z.2))
def wd_8_0 : List Int := [116, 111]
theorem wd_8_0_i {b : Nat → Int} {f p : Nat} (hfp : f ≤ p) (hb : ∀ j, f ≤ j → j < p → 97 ≤ b j ∧ b j ≤ 122) : txt b f (p - f) = 555 ↔ mtw b f p wd_8_0 := txt_iff 555 (by decide) rfl (by decide) hfp hb
theorem wd_8_0_n : ∀ c ∈ wd_8_0, c ≠ 32 := by decide
theorem ltw_8 {b : Nat → Int} {f p : Nat} (hfp : f ≤ p) (hb : ∀ j, f ≤ j → j < p → 97 ≤ b j ∧ b j ≤ 122) : pkf b f p (av_lit 8) 0 f true = (if txt b f (p - f) = 555 then 0 else -1) := by
  rw [show av_lit 8 = wd_8_0 from rfl]
  by_cases e0 : txt b f (p - f) = 555
  · rw [if_pos e0]; exact (pkf_e (i := 0) wd_8_0 f true wd_8_0_n).1 ⟨rfl, (wd_8_0_i hfp hb).mp e0⟩
  rw [if_neg e0]; exact (pkf_e (i := 0) wd_8_0 f true wd_8_0_n).2 (fun z => e0 ((wd_8_0_i hfp hb).mpr z.2))
def wd_9_0 : List Int := [97, 102, 116, 101, 114]
theorem wd_9_0_i {b : Nat → Int} {f p : Nat} (hfp : f ≤ p) (hb : ∀ j, f ≤ j → j < p → 97 ≤ b j ∧ b j ≤ 122) : txt b f (p - f) = 664272 ↔ mtw b f p wd_9_0 := txt_iff 664272 (by decide) rfl (by decide) hfp hb
theorem wd_9_0_n : ∀ c ∈ wd_9_0, c ≠ 32 := by decide
theorem ltw_9 {b : Nat → Int} {f p : Nat} (hfp : f ≤ p) (hb : ∀ j, f ≤ j → j < p → 97 ≤ b j ∧ b j ≤ 122) : pkf b f p (av_lit 9) 0 f true = (if txt b f (p - f) = 664272 then 0 else -1) := by
  rw [show av_lit 9 = wd_9_0 from rfl]
  by_cases e0 : txt b f (p - f) = 664272
  · rw [if_pos e0]; exact (pkf_e (i := 0) wd_9_0 f true wd_9_0_n).1 ⟨rfl, (wd_9_0_i hfp hb).mp e0⟩
  rw [if_neg e0]; exact (pkf_e (i := 0) wd_9_0 f true wd_9_0_n).2 (fun z => e0 ((wd_9_0_i hfp hb).mpr z.2))
def wd_10_0 : List Int := [114, 101, 97, 100]
theorem wd_10_0_i {b : Nat → Int} {f p : Nat} (hfp : f ≤ p) (hb : ∀ j, f ≤ j → j < p → 97 ≤ b j ∧ b j ≤ 122) : txt b f (p - f) = 357970 ↔ mtw b f p wd_10_0 := txt_iff 357970 (by decide) rfl (by decide) hfp hb
theorem wd_10_0_n : ∀ c ∈ wd_10_0, c ≠ 32 := by decide
theorem ltw_10 {b : Nat → Int} {f p : Nat} (hfp : f ≤ p) (hb : ∀ j, f ≤ j → j < p → 97 ≤ b j ∧ b j ≤ 122) : pkf b f p (av_lit 10) 0 f true = (if txt b f (p - f) = 357970 then 0 else -1) := by
  rw [show av_lit 10 = wd_10_0 from rfl]
  by_cases e0 : txt b f (p - f) = 357970
  · rw [if_pos e0]; exact (pkf_e (i := 0) wd_10_0 f true wd_10_0_n).1 ⟨rfl, (wd_10_0_i hfp hb).mp e0⟩
  rw [if_neg e0]; exact (pkf_e (i := 0) wd_10_0 f true wd_10_0_n).2 (fun z => e0 ((wd_10_0_i hfp hb).mpr z.2))
def wd_11_0 : List Int := [108, 111, 115, 116]
theorem wd_11_0_i {b : Nat → Int} {f p : Nat} (hfp : f ≤ p) (hb : ∀ j, f ≤ j → j < p → 97 ≤ b j ∧ b j ≤ 122) : txt b f (p - f) = 247664 ↔ mtw b f p wd_11_0 := txt_iff 247664 (by decide) rfl (by decide) hfp hb
theorem wd_11_0_n : ∀ c ∈ wd_11_0, c ≠ 32 := by decide
theorem ltw_11 {b : Nat → Int} {f p : Nat} (hfp : f ≤ p) (hb : ∀ j, f ≤ j → j < p → 97 ≤ b j ∧ b j ≤ 122) : pkf b f p (av_lit 11) 0 f true = (if txt b f (p - f) = 247664 then 0 else -1) := by
  rw [show av_lit 11 = wd_11_0 from rfl]
  by_cases e0 : txt b f (p - f) = 247664
  · rw [if_pos e0]; exact (pkf_e (i := 0) wd_11_0 f true wd_11_0_n).1 ⟨rfl, (wd_11_0_i hfp hb).mp e0⟩
  rw [if_neg e0]; exact (pkf_e (i := 0) wd_11_0 f true wd_11_0_n).2 (fun z => e0 ((wd_11_0_i hfp hb).mpr z.2))
def wd_12_0 : List Int := [121, 101, 115]
theorem wd_12_0_i {b : Nat → Int} {f p : Nat} (hfp : f ≤ p) (hb : ∀ j, f ≤ j → j < p → 97 ≤ b j ∧ b j ≤ 122) : txt b f (p - f) = 18379 ↔ mtw b f p wd_12_0 := txt_iff 18379 (by decide) rfl (by decide) hfp hb
theorem wd_12_0_n : ∀ c ∈ wd_12_0, c ≠ 32 := by decide
def wd_12_1 : List Int := [111, 102, 102, 101, 114]
theorem wd_12_1_i {b : Nat → Int} {f p : Nat} (hfp : f ≤ p) (hb : ∀ j, f ≤ j → j < p → 97 ≤ b j ∧ b j ≤ 122) : txt b f (p - f) = 8094240 ↔ mtw b f p wd_12_1 := txt_iff 8094240 (by decide) rfl (by decide) hfp hb
theorem wd_12_1_n : ∀ c ∈ wd_12_1, c ≠ 32 := by decide
def wd_12_2 : List Int := [98, 97, 99, 107]
theorem wd_12_2_i {b : Nat → Int} {f p : Nat} (hfp : f ≤ p) (hb : ∀ j, f ≤ j → j < p → 97 ≤ b j ∧ b j ≤ 122) : txt b f (p - f) = 40187 ↔ mtw b f p wd_12_2 := txt_iff 40187 (by decide) rfl (by decide) hfp hb
theorem wd_12_2_n : ∀ c ∈ wd_12_2, c ≠ 32 := by decide
def wd_12_3 : List Int := [110, 111]
theorem wd_12_3_i {b : Nat → Int} {f p : Nat} (hfp : f ≤ p) (hb : ∀ j, f ≤ j → j < p → 97 ≤ b j ∧ b j ≤ 122) : txt b f (p - f) = 393 ↔ mtw b f p wd_12_3 := txt_iff 393 (by decide) rfl (by decide) hfp hb
theorem wd_12_3_n : ∀ c ∈ wd_12_3, c ≠ 32 := by decide
def wd_12_4 : List Int := [104, 111, 108, 100]
theorem wd_12_4_i {b : Nat → Int} {f p : Nat} (hfp : f ≤ p) (hb : ∀ j, f ≤ j → j < p → 97 ≤ b j ∧ b j ≤ 122) : txt b f (p - f) = 168727 ↔ mtw b f p wd_12_4 := txt_iff 168727 (by decide) rfl (by decide) hfp hb
theorem wd_12_4_n : ∀ c ∈ wd_12_4, c ≠ 32 := by decide
def wd_12_5 : List Int := [108, 97, 112, 115, 101]
theorem wd_12_5_i {b : Nat → Int} {f p : Nat} (hfp : f ≤ p) (hb : ∀ j, f ≤ j → j < p → 97 ≤ b j ∧ b j ≤ 122) : txt b f (p - f) = 6409157 ↔ mtw b f p wd_12_5 := txt_iff 6409157 (by decide) rfl (by decide) hfp hb
theorem wd_12_5_n : ∀ c ∈ wd_12_5, c ≠ 32 := by decide
def wd_12_6 : List Int := [115, 105, 108, 101, 110, 99, 101]
theorem wd_12_6_i {b : Nat → Int} {f p : Nat} (hfp : f ≤ p) (hb : ∀ j, f ≤ j → j < p → 97 ≤ b j ∧ b j ≤ 122) : txt b f (p - f) = 7496615453 ↔ mtw b f p wd_12_6 := txt_iff 7496615453 (by decide) rfl (by decide) hfp hb
theorem wd_12_6_n : ∀ c ∈ wd_12_6, c ≠ 32 := by decide
def wd_12_7 : List Int := [98, 117, 116]
theorem wd_12_7_i {b : Nat → Int} {f p : Nat} (hfp : f ≤ p) (hb : ∀ j, f ≤ j → j < p → 97 ≤ b j ∧ b j ≤ 122) : txt b f (p - f) = 2045 ↔ mtw b f p wd_12_7 := txt_iff 2045 (by decide) rfl (by decide) hfp hb
theorem wd_12_7_n : ∀ c ∈ wd_12_7, c ≠ 32 := by decide
def wd_12_8 : List Int := [102, 111, 114, 109]
theorem wd_12_8_i {b : Nat → Int} {f p : Nat} (hfp : f ≤ p) (hb : ∀ j, f ≤ j → j < p → 97 ≤ b j ∧ b j ≤ 122) : txt b f (p - f) = 129532 ↔ mtw b f p wd_12_8 := txt_iff 129532 (by decide) rfl (by decide) hfp hb
theorem wd_12_8_n : ∀ c ∈ wd_12_8, c ≠ 32 := by decide
def wd_12_9 : List Int := [100, 101, 101, 100]
theorem wd_12_9_i {b : Nat → Int} {f p : Nat} (hfp : f ≤ p) (hb : ∀ j, f ≤ j → j < p → 97 ≤ b j ∧ b j ≤ 122) : txt b f (p - f) = 82516 ↔ mtw b f p wd_12_9 := txt_iff 82516 (by decide) rfl (by decide) hfp hb
theorem wd_12_9_n : ∀ c ∈ wd_12_9, c ≠ 32 := by decide
def wd_12_10 : List Int := [114, 105, 115, 107]
theorem wd_12_10_i {b : Nat → Int} {f p : Nat} (hfp : f ≤ p) (hb : ∀ j, f ≤ j → j < p → 97 ≤ b j ∧ b j ≤ 122) : txt b f (p - f) = 361379 ↔ mtw b f p wd_12_10 := txt_iff 361379 (by decide) rfl (by decide) hfp hb
theorem wd_12_10_n : ∀ c ∈ wd_12_10, c ≠ 32 := by decide
theorem ltw_12 {b : Nat → Int} {f p : Nat} (hfp : f ≤ p) (hb : ∀ j, f ≤ j → j < p → 97 ≤ b j ∧ b j ≤ 122) : pkf b f p (av_lit 12) 0 f true = (if txt b f (p - f) = 18379 then 0 else (if txt b f (p - f) = 8094240 then 1 else (if txt b f (p - f) = 40187 then 2 else (if txt b f (p - f) = 393 then 3 else (if txt b f (p - f) = 168727 then 4 else (if txt b f (p - f) = 6409157 then 5 else (if txt b f (p - f) = 7496615453 then 6 else (if txt b f (p - f) = 2045 then 7 else (if txt b f (p - f) = 129532 then 8 else (if txt b f (p - f) = 82516 then 9 else (if txt b f (p - f) = 361379 then 10 else -1))))))))))) := by
  rw [show av_lit 12 = wd_12_0 ++ 32 :: (wd_12_1 ++ 32 :: (wd_12_2 ++ 32 :: (wd_12_3 ++ 32 :: (wd_12_4 ++ 32 :: (wd_12_5 ++ 32 :: (wd_12_6 ++ 32 :: (wd_12_7 ++ 32 :: (wd_12_8 ++ 32 :: (wd_12_9 ++ 32 :: (wd_12_10)))))))))) from rfl]
  by_cases e0 : txt b f (p - f) = 18379
  · rw [if_pos e0]; exact (pkf_w (i := 0) wd_12_0 f true wd_12_0_n).1 ⟨rfl, (wd_12_0_i hfp hb).mp e0⟩
  rw [if_neg e0, (pkf_w (i := 0) wd_12_0 f true wd_12_0_n).2 (fun z => e0 ((wd_12_0_i hfp hb).mpr z.2))]
  by_cases e1 : txt b f (p - f) = 8094240
  · rw [if_pos e1]; exact (pkf_w (i := 0 + 1) wd_12_1 f true wd_12_1_n).1 ⟨rfl, (wd_12_1_i hfp hb).mp e1⟩
  rw [if_neg e1, (pkf_w (i := 0 + 1) wd_12_1 f true wd_12_1_n).2 (fun z => e1 ((wd_12_1_i hfp hb).mpr z.2))]
  by_cases e2 : txt b f (p - f) = 40187
  · rw [if_pos e2]; exact (pkf_w (i := 0 + 1 + 1) wd_12_2 f true wd_12_2_n).1 ⟨rfl, (wd_12_2_i hfp hb).mp e2⟩
  rw [if_neg e2, (pkf_w (i := 0 + 1 + 1) wd_12_2 f true wd_12_2_n).2 (fun z => e2 ((wd_12_2_i hfp hb).mpr z.2))]
  by_cases e3 : txt b f (p - f) = 393
  · rw [if_pos e3]; exact (pkf_w (i := 0 + 1 + 1 + 1) wd_12_3 f true wd_12_3_n).1 ⟨rfl, (wd_12_3_i hfp hb).mp e3⟩
  rw [if_neg e3, (pkf_w (i := 0 + 1 + 1 + 1) wd_12_3 f true wd_12_3_n).2 (fun z => e3 ((wd_12_3_i hfp hb).mpr z.2))]
  by_cases e4 : txt b f (p - f) = 168727
  · rw [if_pos e4]; exact (pkf_w (i := 0 + 1 + 1 + 1 + 1) wd_12_4 f true wd_12_4_n).1 ⟨rfl, (wd_12_4_i hfp hb).mp e4⟩
  rw [if_neg e4, (pkf_w (i := 0 + 1 + 1 + 1 + 1) wd_12_4 f true wd_12_4_n).2 (fun z => e4 ((wd_12_4_i hfp hb).mpr z.2))]
  by_cases e5 : txt b f (p - f) = 6409157
  · rw [if_pos e5]; exact (pkf_w (i := 0 + 1 + 1 + 1 + 1 + 1) wd_12_5 f true wd_12_5_n).1 ⟨rfl, (wd_12_5_i hfp hb).mp e5⟩
  rw [if_neg e5, (pkf_w (i := 0 + 1 + 1 + 1 + 1 + 1) wd_12_5 f true wd_12_5_n).2 (fun z => e5 ((wd_12_5_i hfp hb).mpr z.2))]
  by_cases e6 : txt b f (p - f) = 7496615453
  · rw [if_pos e6]; exact (pkf_w (i := 0 + 1 + 1 + 1 + 1 + 1 + 1) wd_12_6 f true wd_12_6_n).1 ⟨rfl, (wd_12_6_i hfp hb).mp e6⟩
  rw [if_neg e6, (pkf_w (i := 0 + 1 + 1 + 1 + 1 + 1 + 1) wd_12_6 f true wd_12_6_n).2 (fun z => e6 ((wd_12_6_i hfp hb).mpr z.2))]
  by_cases e7 : txt b f (p - f) = 2045
  · rw [if_pos e7]; exact (pkf_w (i := 0 + 1 + 1 + 1 + 1 + 1 + 1 + 1) wd_12_7 f true wd_12_7_n).1 ⟨rfl, (wd_12_7_i hfp hb).mp e7⟩
  rw [if_neg e7, (pkf_w (i := 0 + 1 + 1 + 1 + 1 + 1 + 1 + 1) wd_12_7 f true wd_12_7_n).2 (fun z => e7 ((wd_12_7_i hfp hb).mpr z.2))]
  by_cases e8 : txt b f (p - f) = 129532
  · rw [if_pos e8]; exact (pkf_w (i := 0 + 1 + 1 + 1 + 1 + 1 + 1 + 1 + 1) wd_12_8 f true wd_12_8_n).1 ⟨rfl, (wd_12_8_i hfp hb).mp e8⟩
  rw [if_neg e8, (pkf_w (i := 0 + 1 + 1 + 1 + 1 + 1 + 1 + 1 + 1) wd_12_8 f true wd_12_8_n).2 (fun z => e8 ((wd_12_8_i hfp hb).mpr z.2))]
  by_cases e9 : txt b f (p - f) = 82516
  · rw [if_pos e9]; exact (pkf_w (i := 0 + 1 + 1 + 1 + 1 + 1 + 1 + 1 + 1 + 1) wd_12_9 f true wd_12_9_n).1 ⟨rfl, (wd_12_9_i hfp hb).mp e9⟩
  rw [if_neg e9, (pkf_w (i := 0 + 1 + 1 + 1 + 1 + 1 + 1 + 1 + 1 + 1) wd_12_9 f true wd_12_9_n).2 (fun z => e9 ((wd_12_9_i hfp hb).mpr z.2))]
  by_cases e10 : txt b f (p - f) = 361379
  · rw [if_pos e10]; exact (pkf_e (i := 0 + 1 + 1 + 1 + 1 + 1 + 1 + 1 + 1 + 1 + 1) wd_12_10 f true wd_12_10_n).1 ⟨rfl, (wd_12_10_i hfp hb).mp e10⟩
  rw [if_neg e10]; exact (pkf_e (i := 0 + 1 + 1 + 1 + 1 + 1 + 1 + 1 + 1 + 1 + 1) wd_12_10 f true wd_12_10_n).2 (fun z => e10 ((wd_12_10_i hfp hb).mpr z.2))
def wd_13_0 : List Int := [112, 111, 115, 116]
theorem wd_13_0_i {b : Nat → Int} {f p : Nat} (hfp : f ≤ p) (hb : ∀ j, f ≤ j → j < p → 97 ≤ b j ∧ b j ≤ 122) : txt b f (p - f) = 326396 ↔ mtw b f p wd_13_0 := txt_iff 326396 (by decide) rfl (by decide) hfp hb
theorem wd_13_0_n : ∀ c ∈ wd_13_0, c ≠ 32 := by decide
def wd_13_1 : List Int := [119, 105, 114, 101]
theorem wd_13_1_i {b : Nat → Int} {f p : Nat} (hfp : f ≤ p) (hb : ∀ j, f ≤ j → j < p → 97 ≤ b j ∧ b j ≤ 122) : txt b f (p - f) = 459761 ↔ mtw b f p wd_13_1 := txt_iff 459761 (by decide) rfl (by decide) hfp hb
theorem wd_13_1_n : ∀ c ∈ wd_13_1, c ≠ 32 := by decide
def wd_13_2 : List Int := [109, 111, 117, 116, 104]
theorem wd_13_2_i {b : Nat → Int} {f p : Nat} (hfp : f ≤ p) (hb : ∀ j, f ≤ j → j < p → 97 ≤ b j ∧ b j ≤ 122) : txt b f (p - f) = 7219835 ↔ mtw b f p wd_13_2 := txt_iff 7219835 (by decide) rfl (by decide) hfp hb
theorem wd_13_2_n : ∀ c ∈ wd_13_2, c ≠ 32 := by decide
def wd_13_3 : List Int := [97, 108, 108]
theorem wd_13_3_i {b : Nat → Int} {f p : Nat} (hfp : f ≤ p) (hb : ∀ j, f ≤ j → j < p → 97 ≤ b j ∧ b j ≤ 122) : txt b f (p - f) = 1065 ↔ mtw b f p wd_13_3 := txt_iff 1065 (by decide) rfl (by decide) hfp hb
theorem wd_13_3_n : ∀ c ∈ wd_13_3, c ≠ 32 := by decide
theorem ltw_13 {b : Nat → Int} {f p : Nat} (hfp : f ≤ p) (hb : ∀ j, f ≤ j → j < p → 97 ≤ b j ∧ b j ≤ 122) : pkf b f p (av_lit 13) 0 f true = (if txt b f (p - f) = 326396 then 0 else (if txt b f (p - f) = 459761 then 1 else (if txt b f (p - f) = 7219835 then 2 else (if txt b f (p - f) = 1065 then 3 else -1)))) := by
  rw [show av_lit 13 = wd_13_0 ++ 32 :: (wd_13_1 ++ 32 :: (wd_13_2 ++ 32 :: (wd_13_3))) from rfl]
  by_cases e0 : txt b f (p - f) = 326396
  · rw [if_pos e0]; exact (pkf_w (i := 0) wd_13_0 f true wd_13_0_n).1 ⟨rfl, (wd_13_0_i hfp hb).mp e0⟩
  rw [if_neg e0, (pkf_w (i := 0) wd_13_0 f true wd_13_0_n).2 (fun z => e0 ((wd_13_0_i hfp hb).mpr z.2))]
  by_cases e1 : txt b f (p - f) = 459761
  · rw [if_pos e1]; exact (pkf_w (i := 0 + 1) wd_13_1 f true wd_13_1_n).1 ⟨rfl, (wd_13_1_i hfp hb).mp e1⟩
  rw [if_neg e1, (pkf_w (i := 0 + 1) wd_13_1 f true wd_13_1_n).2 (fun z => e1 ((wd_13_1_i hfp hb).mpr z.2))]
  by_cases e2 : txt b f (p - f) = 7219835
  · rw [if_pos e2]; exact (pkf_w (i := 0 + 1 + 1) wd_13_2 f true wd_13_2_n).1 ⟨rfl, (wd_13_2_i hfp hb).mp e2⟩
  rw [if_neg e2, (pkf_w (i := 0 + 1 + 1) wd_13_2 f true wd_13_2_n).2 (fun z => e2 ((wd_13_2_i hfp hb).mpr z.2))]
  by_cases e3 : txt b f (p - f) = 1065
  · rw [if_pos e3]; exact (pkf_e (i := 0 + 1 + 1 + 1) wd_13_3 f true wd_13_3_n).1 ⟨rfl, (wd_13_3_i hfp hb).mp e3⟩
  rw [if_neg e3]; exact (pkf_e (i := 0 + 1 + 1 + 1) wd_13_3 f true wd_13_3_n).2 (fun z => e3 ((wd_13_3_i hfp hb).mpr z.2))
def wd_14_0 : List Int := [115, 101, 110, 116]
theorem wd_14_0_i {b : Nat → Int} {f p : Nat} (hfp : f ≤ p) (hb : ∀ j, f ≤ j → j < p → 97 ≤ b j ∧ b j ≤ 122) : txt b f (p - f) = 378020 ↔ mtw b f p wd_14_0 := txt_iff 378020 (by decide) rfl (by decide) hfp hb
theorem wd_14_0_n : ∀ c ∈ wd_14_0, c ≠ 32 := by decide
def wd_14_1 : List Int := [99, 111, 109, 101]
theorem wd_14_1_i {b : Nat → Int} {f p : Nat} (hfp : f ≤ p) (hb : ∀ j, f ≤ j → j < p → 97 ≤ b j ∧ b j ≤ 122) : txt b f (p - f) = 70340 ↔ mtw b f p wd_14_1 := txt_iff 70340 (by decide) rfl (by decide) hfp hb
theorem wd_14_1_n : ∀ c ∈ wd_14_1, c ≠ 32 := by decide
def wd_14_2 : List Int := [114, 101, 97, 100]
theorem wd_14_2_i {b : Nat → Int} {f p : Nat} (hfp : f ≤ p) (hb : ∀ j, f ≤ j → j < p → 97 ≤ b j ∧ b j ≤ 122) : txt b f (p - f) = 357970 ↔ mtw b f p wd_14_2 := txt_iff 357970 (by decide) rfl (by decide) hfp hb
theorem wd_14_2_n : ∀ c ∈ wd_14_2, c ≠ 32 := by decide
theorem ltw_14 {b : Nat → Int} {f p : Nat} (hfp : f ≤ p) (hb : ∀ j, f ≤ j → j < p → 97 ≤ b j ∧ b j ≤ 122) : pkf b f p (av_lit 14) 0 f true = (if txt b f (p - f) = 378020 then 0 else (if txt b f (p - f) = 70340 then 1 else (if txt b f (p - f) = 357970 then 2 else -1))) := by
  rw [show av_lit 14 = wd_14_0 ++ 32 :: (wd_14_1 ++ 32 :: (wd_14_2)) from rfl]
  by_cases e0 : txt b f (p - f) = 378020
  · rw [if_pos e0]; exact (pkf_w (i := 0) wd_14_0 f true wd_14_0_n).1 ⟨rfl, (wd_14_0_i hfp hb).mp e0⟩
  rw [if_neg e0, (pkf_w (i := 0) wd_14_0 f true wd_14_0_n).2 (fun z => e0 ((wd_14_0_i hfp hb).mpr z.2))]
  by_cases e1 : txt b f (p - f) = 70340
  · rw [if_pos e1]; exact (pkf_w (i := 0 + 1) wd_14_1 f true wd_14_1_n).1 ⟨rfl, (wd_14_1_i hfp hb).mp e1⟩
  rw [if_neg e1, (pkf_w (i := 0 + 1) wd_14_1 f true wd_14_1_n).2 (fun z => e1 ((wd_14_1_i hfp hb).mpr z.2))]
  by_cases e2 : txt b f (p - f) = 357970
  · rw [if_pos e2]; exact (pkf_e (i := 0 + 1 + 1) wd_14_2 f true wd_14_2_n).1 ⟨rfl, (wd_14_2_i hfp hb).mp e2⟩
  rw [if_neg e2]; exact (pkf_e (i := 0 + 1 + 1) wd_14_2 f true wd_14_2_n).2 (fun z => e2 ((wd_14_2_i hfp hb).mpr z.2))
def wd_15_0 : List Int := [102, 114, 101, 101]
theorem wd_15_0_i {b : Nat → Int} {f p : Nat} (hfp : f ≤ p) (hb : ∀ j, f ≤ j → j < p → 97 ≤ b j ∧ b j ≤ 122) : txt b f (p - f) = 131360 ↔ mtw b f p wd_15_0 := txt_iff 131360 (by decide) rfl (by decide) hfp hb
theorem wd_15_0_n : ∀ c ∈ wd_15_0, c ≠ 32 := by decide
def wd_15_1 : List Int := [98, 105, 110, 100, 115]
theorem wd_15_1_i {b : Nat → Int} {f p : Nat} (hfp : f ≤ p) (hb : ∀ j, f ≤ j → j < p → 97 ≤ b j ∧ b j ≤ 122) : txt b f (p - f) = 1250362 ↔ mtw b f p wd_15_1 := txt_iff 1250362 (by decide) rfl (by decide) hfp hb
theorem wd_15_1_n : ∀ c ∈ wd_15_1, c ≠ 32 := by decide
theorem ltw_15 {b : Nat → Int} {f p : Nat} (hfp : f ≤ p) (hb : ∀ j, f ≤ j → j < p → 97 ≤ b j ∧ b j ≤ 122) : pkf b f p (av_lit 15) 0 f true = (if txt b f (p - f) = 131360 then 0 else (if txt b f (p - f) = 1250362 then 1 else -1)) := by
  rw [show av_lit 15 = wd_15_0 ++ 32 :: (wd_15_1) from rfl]
  by_cases e0 : txt b f (p - f) = 131360
  · rw [if_pos e0]; exact (pkf_w (i := 0) wd_15_0 f true wd_15_0_n).1 ⟨rfl, (wd_15_0_i hfp hb).mp e0⟩
  rw [if_neg e0, (pkf_w (i := 0) wd_15_0 f true wd_15_0_n).2 (fun z => e0 ((wd_15_0_i hfp hb).mpr z.2))]
  by_cases e1 : txt b f (p - f) = 1250362
  · rw [if_pos e1]; exact (pkf_e (i := 0 + 1) wd_15_1 f true wd_15_1_n).1 ⟨rfl, (wd_15_1_i hfp hb).mp e1⟩
  rw [if_neg e1]; exact (pkf_e (i := 0 + 1) wd_15_1 f true wd_15_1_n).2 (fun z => e1 ((wd_15_1_i hfp hb).mpr z.2))
def wd_16_0 : List Int := [110, 111]
theorem wd_16_0_i {b : Nat → Int} {f p : Nat} (hfp : f ≤ p) (hb : ∀ j, f ≤ j → j < p → 97 ≤ b j ∧ b j ≤ 122) : txt b f (p - f) = 393 ↔ mtw b f p wd_16_0 := txt_iff 393 (by decide) rfl (by decide) hfp hb
theorem wd_16_0_n : ∀ c ∈ wd_16_0, c ≠ 32 := by decide
def wd_16_1 : List Int := [115, 109, 97, 108, 108]
theorem wd_16_1_i {b : Nat → Int} {f p : Nat} (hfp : f ≤ p) (hb : ∀ j, f ≤ j → j < p → 97 ≤ b j ∧ b j ≤ 122) : txt b f (p - f) = 10354323 ↔ mtw b f p wd_16_1 := txt_iff 10354323 (by decide) rfl (by decide) hfp hb
theorem wd_16_1_n : ∀ c ∈ wd_16_1, c ≠ 32 := by decide
theorem ltw_16 {b : Nat → Int} {f p : Nat} (hfp : f ≤ p) (hb : ∀ j, f ≤ j → j < p → 97 ≤ b j ∧ b j ≤ 122) : pkf b f p (av_lit 16) 0 f true = (if txt b f (p - f) = 393 then 0 else (if txt b f (p - f) = 10354323 then 1 else -1)) := by
  rw [show av_lit 16 = wd_16_0 ++ 32 :: (wd_16_1) from rfl]
  by_cases e0 : txt b f (p - f) = 393
  · rw [if_pos e0]; exact (pkf_w (i := 0) wd_16_0 f true wd_16_0_n).1 ⟨rfl, (wd_16_0_i hfp hb).mp e0⟩
  rw [if_neg e0, (pkf_w (i := 0) wd_16_0 f true wd_16_0_n).2 (fun z => e0 ((wd_16_0_i hfp hb).mpr z.2))]
  by_cases e1 : txt b f (p - f) = 10354323
  · rw [if_pos e1]; exact (pkf_e (i := 0 + 1) wd_16_1 f true wd_16_1_n).1 ⟨rfl, (wd_16_1_i hfp hb).mp e1⟩
  rw [if_neg e1]; exact (pkf_e (i := 0 + 1) wd_16_1 f true wd_16_1_n).2 (fun z => e1 ((wd_16_1_i hfp hb).mpr z.2))
def wd_17_0 : List Int := [102, 105, 114, 115, 116]
theorem wd_17_0_i {b : Nat → Int} {f p : Nat} (hfp : f ≤ p) (hb : ∀ j, f ≤ j → j < p → 97 ≤ b j ∧ b j ≤ 122) : txt b f (p - f) = 3379448 ↔ mtw b f p wd_17_0 := txt_iff 3379448 (by decide) rfl (by decide) hfp hb
theorem wd_17_0_n : ∀ c ∈ wd_17_0, c ≠ 32 := by decide
def wd_17_1 : List Int := [108, 97, 115, 116]
theorem wd_17_1_i {b : Nat → Int} {f p : Nat} (hfp : f ≤ p) (hb : ∀ j, f ≤ j → j < p → 97 ≤ b j ∧ b j ≤ 122) : txt b f (p - f) = 237458 ↔ mtw b f p wd_17_1 := txt_iff 237458 (by decide) rfl (by decide) hfp hb
theorem wd_17_1_n : ∀ c ∈ wd_17_1, c ≠ 32 := by decide
def wd_17_2 : List Int := [110, 111, 110, 101]
theorem wd_17_2_i {b : Nat → Int} {f p : Nat} (hfp : f ≤ p) (hb : ∀ j, f ≤ j → j < p → 97 ≤ b j ∧ b j ≤ 122) : txt b f (p - f) = 286880 ↔ mtw b f p wd_17_2 := txt_iff 286880 (by decide) rfl (by decide) hfp hb
theorem wd_17_2_n : ∀ c ∈ wd_17_2, c ≠ 32 := by decide
theorem ltw_17 {b : Nat → Int} {f p : Nat} (hfp : f ≤ p) (hb : ∀ j, f ≤ j → j < p → 97 ≤ b j ∧ b j ≤ 122) : pkf b f p (av_lit 17) 0 f true = (if txt b f (p - f) = 3379448 then 0 else (if txt b f (p - f) = 237458 then 1 else (if txt b f (p - f) = 286880 then 2 else -1))) := by
  rw [show av_lit 17 = wd_17_0 ++ 32 :: (wd_17_1 ++ 32 :: (wd_17_2)) from rfl]
  by_cases e0 : txt b f (p - f) = 3379448
  · rw [if_pos e0]; exact (pkf_w (i := 0) wd_17_0 f true wd_17_0_n).1 ⟨rfl, (wd_17_0_i hfp hb).mp e0⟩
  rw [if_neg e0, (pkf_w (i := 0) wd_17_0 f true wd_17_0_n).2 (fun z => e0 ((wd_17_0_i hfp hb).mpr z.2))]
  by_cases e1 : txt b f (p - f) = 237458
  · rw [if_pos e1]; exact (pkf_w (i := 0 + 1) wd_17_1 f true wd_17_1_n).1 ⟨rfl, (wd_17_1_i hfp hb).mp e1⟩
  rw [if_neg e1, (pkf_w (i := 0 + 1) wd_17_1 f true wd_17_1_n).2 (fun z => e1 ((wd_17_1_i hfp hb).mpr z.2))]
  by_cases e2 : txt b f (p - f) = 286880
  · rw [if_pos e2]; exact (pkf_e (i := 0 + 1 + 1) wd_17_2 f true wd_17_2_n).1 ⟨rfl, (wd_17_2_i hfp hb).mp e2⟩
  rw [if_neg e2]; exact (pkf_e (i := 0 + 1 + 1) wd_17_2 f true wd_17_2_n).2 (fun z => e2 ((wd_17_2_i hfp hb).mpr z.2))
def wd_18_0 : List Int := [110, 111, 110, 101]
theorem wd_18_0_i {b : Nat → Int} {f p : Nat} (hfp : f ≤ p) (hb : ∀ j, f ≤ j → j < p → 97 ≤ b j ∧ b j ≤ 122) : txt b f (p - f) = 286880 ↔ mtw b f p wd_18_0 := txt_iff 286880 (by decide) rfl (by decide) hfp hb
theorem wd_18_0_n : ∀ c ∈ wd_18_0, c ≠ 32 := by decide
def wd_18_1 : List Int := [121, 101, 115]
theorem wd_18_1_i {b : Nat → Int} {f p : Nat} (hfp : f ≤ p) (hb : ∀ j, f ≤ j → j < p → 97 ≤ b j ∧ b j ≤ 122) : txt b f (p - f) = 18379 ↔ mtw b f p wd_18_1 := txt_iff 18379 (by decide) rfl (by decide) hfp hb
theorem wd_18_1_n : ∀ c ∈ wd_18_1, c ≠ 32 := by decide
theorem ltw_18 {b : Nat → Int} {f p : Nat} (hfp : f ≤ p) (hb : ∀ j, f ≤ j → j < p → 97 ≤ b j ∧ b j ≤ 122) : pkf b f p (av_lit 18) 0 f true = (if txt b f (p - f) = 286880 then 0 else (if txt b f (p - f) = 18379 then 1 else -1)) := by
  rw [show av_lit 18 = wd_18_0 ++ 32 :: (wd_18_1) from rfl]
  by_cases e0 : txt b f (p - f) = 286880
  · rw [if_pos e0]; exact (pkf_w (i := 0) wd_18_0 f true wd_18_0_n).1 ⟨rfl, (wd_18_0_i hfp hb).mp e0⟩
  rw [if_neg e0, (pkf_w (i := 0) wd_18_0 f true wd_18_0_n).2 (fun z => e0 ((wd_18_0_i hfp hb).mpr z.2))]
  by_cases e1 : txt b f (p - f) = 18379
  · rw [if_pos e1]; exact (pkf_e (i := 0 + 1) wd_18_1 f true wd_18_1_n).1 ⟨rfl, (wd_18_1_i hfp hb).mp e1⟩
  rw [if_neg e1]; exact (pkf_e (i := 0 + 1) wd_18_1 f true wd_18_1_n).2 (fun z => e1 ((wd_18_1_i hfp hb).mpr z.2))
def wd_19_0 : List Int := [98, 97, 114, 103, 97, 105, 110]
theorem wd_19_0_i {b : Nat → Int} {f p : Nat} (hfp : f ≤ p) (hb : ∀ j, f ≤ j → j < p → 97 ≤ b j ∧ b j ≤ 122) : txt b f (p - f) = 798894590 ↔ mtw b f p wd_19_0 := txt_iff 798894590 (by decide) rfl (by decide) hfp hb
theorem wd_19_0_n : ∀ c ∈ wd_19_0, c ≠ 32 := by decide
def wd_19_1 : List Int := [115, 101, 110, 116]
theorem wd_19_1_i {b : Nat → Int} {f p : Nat} (hfp : f ≤ p) (hb : ∀ j, f ≤ j → j < p → 97 ≤ b j ∧ b j ≤ 122) : txt b f (p - f) = 378020 ↔ mtw b f p wd_19_1 := txt_iff 378020 (by decide) rfl (by decide) hfp hb
theorem wd_19_1_n : ∀ c ∈ wd_19_1, c ≠ 32 := by decide
def wd_19_2 : List Int := [99, 111, 109, 101]
theorem wd_19_2_i {b : Nat → Int} {f p : Nat} (hfp : f ≤ p) (hb : ∀ j, f ≤ j → j < p → 97 ≤ b j ∧ b j ≤ 122) : txt b f (p - f) = 70340 ↔ mtw b f p wd_19_2 := txt_iff 70340 (by decide) rfl (by decide) hfp hb
theorem wd_19_2_n : ∀ c ∈ wd_19_2, c ≠ 32 := by decide
theorem ltw_19 {b : Nat → Int} {f p : Nat} (hfp : f ≤ p) (hb : ∀ j, f ≤ j → j < p → 97 ≤ b j ∧ b j ≤ 122) : pkf b f p (av_lit 19) 0 f true = (if txt b f (p - f) = 798894590 then 0 else (if txt b f (p - f) = 378020 then 1 else (if txt b f (p - f) = 70340 then 2 else -1))) := by
  rw [show av_lit 19 = wd_19_0 ++ 32 :: (wd_19_1 ++ 32 :: (wd_19_2)) from rfl]
  by_cases e0 : txt b f (p - f) = 798894590
  · rw [if_pos e0]; exact (pkf_w (i := 0) wd_19_0 f true wd_19_0_n).1 ⟨rfl, (wd_19_0_i hfp hb).mp e0⟩
  rw [if_neg e0, (pkf_w (i := 0) wd_19_0 f true wd_19_0_n).2 (fun z => e0 ((wd_19_0_i hfp hb).mpr z.2))]
  by_cases e1 : txt b f (p - f) = 378020
  · rw [if_pos e1]; exact (pkf_w (i := 0 + 1) wd_19_1 f true wd_19_1_n).1 ⟨rfl, (wd_19_1_i hfp hb).mp e1⟩
  rw [if_neg e1, (pkf_w (i := 0 + 1) wd_19_1 f true wd_19_1_n).2 (fun z => e1 ((wd_19_1_i hfp hb).mpr z.2))]
  by_cases e2 : txt b f (p - f) = 70340
  · rw [if_pos e2]; exact (pkf_e (i := 0 + 1 + 1) wd_19_2 f true wd_19_2_n).1 ⟨rfl, (wd_19_2_i hfp hb).mp e2⟩
  rw [if_neg e2]; exact (pkf_e (i := 0 + 1 + 1) wd_19_2 f true wd_19_2_n).2 (fun z => e2 ((wd_19_2_i hfp hb).mpr z.2))
end
section
/-! THE REFERENCE STANDS AT A TOKEN -/
theorem edn_all {b : Nat → Int} {lim : Nat} {s : Int} : ∀ (n a : Nat), lim - a = n → ∀ j, a ≤ j → j < edn b lim s a → so (b j) = s := by
  intro n
  induction n with
  | zero => intro a h1 j h2 h3; rw [edn_end (by omega)] at h3; omega
  | succ n ih =>
    intro a h1 j h2 h3
    by_cases h : a < lim ∧ so (b a) = s
    · rw [edn_go h.1 h.2] at h3
      by_cases e : j = a
      · rw [e]; exact h.2
      · exact ih (a + 1) (by omega) j (by omega) h3
    · rw [edn_end h] at h3; omega
def TKW (b : Nat → Int) (t : TT) : Prop := t.1 ≤ t.2.1 ∧ (t.2.2.1 = 1 → ∀ j, t.1 ≤ j → j < t.2.1 → 97 ≤ b j ∧ b j ≤ 122) ∧ (t.2.2.1 = 2 → ∀ j, t.1 ≤ j → j < t.2.1 → 48 ≤ b j ∧ b j ≤ 57)
theorem adv_ok {b : Nat → Int} {lim : Nat} {t : TT} (w : WF lim t) : WF lim (adv b lim t) ∧ TKW b (adv b lim t) := by
  obtain ⟨w1, w2, w3, w4, w5⟩ := w
  have e1 := edn_le (b := b) (s := 4) (lim - t.2.1) t.2.1 rfl w2
  generalize hk : edn b lim 4 t.2.1 = k at e1
  by_cases hl : k < lim
  · have gs := so_r (b k)
    by_cases h12 : so (b k) = 1 ∨ so (b k) = 2
    · have e2 := edn_le (b := b) (s := so (b k)) (lim - (k + 1)) (k + 1) rfl (by omega)
      have ea : adv b lim t = (k, edn b lim (so (b k)) (k + 1), so (b k), t.2.2.2) := by simp only [adv, hk, if_pos hl, if_pos h12]
      have al : ∀ j, k ≤ j → j < edn b lim (so (b k)) (k + 1) → so (b j) = so (b k) := fun j h1 h2 => by
        by_cases e : j = k
        · rw [e]
        · exact edn_all (lim - (k + 1)) (k + 1) rfl j (by omega) h2
      rw [ea]
      refine ⟨⟨by show k ≤ 900; omega, e2.2, w3, by show 0 ≤ so (b k) ∧ so (b k) ≤ 5; omega, w5⟩, Nat.le_trans (Nat.le_succ k) e2.1, fun h j h1 h2 => ?_, fun h j h1 h2 => ?_⟩
      · exact so_1.mp ((al j h1 h2).trans h)
      · exact so_2.mp ((al j h1 h2).trans h)
    · have ea : adv b lim t = (k, k + 1, so (b k), t.2.2.2) := by simp only [adv, hk, if_pos hl, if_neg h12]
      rw [ea]
      exact ⟨⟨by show k ≤ 900; omega, by show k + 1 ≤ lim; omega, w3, by show 0 ≤ so (b k) ∧ so (b k) ≤ 5; omega, w5⟩, by show k ≤ k + 1; omega, fun h => absurd (Or.inl h) h12, fun h => absurd (Or.inr h) h12⟩
  · have ea : adv b lim t = (k, k, 0, t.2.2.2) := by simp only [adv, hk, if_neg hl]
    rw [ea]
    exact ⟨⟨by show k ≤ 900; omega, e1.2, w3, by show (0 : Int) ≤ 0 ∧ (0 : Int) ≤ 5; omega, w5⟩, Nat.le_refl k, fun h => absurd (show (0 : Int) = 1 from h) (by decide), fun h => absurd (show (0 : Int) = 2 from h) (by decide)⟩
theorem fal_ok {b : Nat → Int} {lim : Nat} {t : TT} (w : WF lim t) (k : TKW b t) : WF lim (fal t) ∧ TKW b (fal t) := by
  obtain ⟨w1, w2, w3, w4, w5⟩ := w
  refine ⟨⟨w1, w2, w3, w4, ?_⟩, k⟩
  show -1 ≤ (if t.2.2.2 = -1 then (t.1 : Int) else t.2.2.2) ∧ (if t.2.2.2 = -1 then (t.1 : Int) else t.2.2.2) ≤ 900
  split <;> omega
def wrv (t : TT) : Int := if t.2.2.2 = -1 then 0 else 1
def MT (b : Nat → Int) (lim : Nat) (t : TT) (x17 : Int) (A : Nat → Nat → Int) (h : av_H) : Prop := NS b lim x17 t.2.2.2 (lim : Int) (t.2.1 : Int) (t.1 : Int) (tokv t) (valv b t) (txtv b t) (wrv t) A h ∧ WF lim t ∧ TKW b t
theorem tok_f (t : TT) (h : 0 ≤ t.2.2.1 ∧ t.2.2.1 ≤ 5) : (tokv t = 1 ↔ t.2.2.1 = 1) ∧ (tokv t = 2 ↔ (t.2.2.1 = 2 ∧ (t.2.1 : Int) - t.1 ≤ 4)) ∧ (tokv t = 0 ↔ t.2.2.1 = 0) ∧ (tokv t = 59 ↔ t.2.2.1 = 3) ∧ (0 ≤ tokv t ∧ tokv t ≤ 59) := by
  unfold tokv
  (repeat' split) <;> omega
theorem wr_f (t : TT) : (wrv t = 0 ∧ t.2.2.2 = -1) ∨ (wrv t = 1 ∧ t.2.2.2 ≠ -1) := by
  unfold wrv
  split <;> omega
theorem txt_le {b : Nat → Int} {f : Nat} : ∀ n, n ≤ 8 → (∀ i, i < n → 97 ≤ b (f + i) ∧ b (f + i) ≤ 122) → txt b f n ≤ 27 ^ n - 1 := by
  intro n
  induction n with
  | zero => intro _ _; show (0 : Int) ≤ 27 ^ 0 - 1; omega
  | succ n ih =>
    intro hn hb
    have h1 := ih (by omega) (fun i hi => hb i (by omega))
    have h2 := hb n (by omega)
    have e : txt b f (n + 1) = txt b f n * 27 + (b (f + n) - 96) := if_pos (by omega)
    have e2 : (27 : Int) ^ (n + 1) = 27 ^ n * 27 := Int.pow_succ 27 n
    rw [e, e2]
    omega
theorem txtv_r {b : Nat → Int} {t : TT} (k : TKW b t) : -1 ≤ txtv b t ∧ txtv b t ≤ 282429536481 := by
  unfold txtv
  split
  · next hs =>
    by_cases h8 : t.2.1 - t.1 ≤ 8
    · have hb : ∀ i, i < t.2.1 - t.1 → 97 ≤ b (t.1 + i) ∧ b (t.1 + i) ≤ 122 := fun i hi => k.2.1 hs (t.1 + i) (by omega) (by omega)
      have h1 := txt_le (b := b) (f := t.1) (t.2.1 - t.1) h8 hb
      have h2 := txt_pos (b := b) (f := t.1) (t.2.1 - t.1) h8 hb
      have h3 : (27 : Int) ^ (t.2.1 - t.1) ≤ 282429536481 := by
        have hh : ∀ n, n < 9 → (27 : Int) ^ n ≤ 282429536481 := by decide
        exact hh _ (by omega)
      omega
    · rw [txt_big (by omega)]; omega
  · omega
theorem av_wlr {x : Int} (h : -9000000000000000000 ≤ x ∧ x ≤ 9000000000000000000) : av_wl x = x := Int.bmod_eq_of_le (by omega) (by omega)
theorem lcf {x y : Int} (hx : -9000000000000000000 ≤ x ∧ x ≤ 9000000000000000000) (hy : -9000000000000000000 ≤ y ∧ y ≤ 9000000000000000000) : ((if av_wl y < av_wl x then (1 : Int) else if av_wl x = av_wl y then 0 else -1) = 0 ↔ x = y) ∧ ((if av_wl y < av_wl x then (1 : Int) else if av_wl x = av_wl y then 0 else -1) < 0 ↔ x < y) ∧ (-1 ≤ (if av_wl y < av_wl x then (1 : Int) else if av_wl x = av_wl y then 0 else -1) ∧ (if av_wl y < av_wl x then (1 : Int) else if av_wl x = av_wl y then 0 else -1) ≤ 1) := by
  rw [av_wlr hx, av_wlr hy]
  (repeat' split) <;> omega
/-- the digits' numbers are the same where there are at most four -/
theorem dgc_dgv {b : Nat → Int} {f : Nat} : ∀ n, n ≤ 4 → (∀ i, i < n → 48 ≤ b (f + i) ∧ b (f + i) ≤ 57) → dgc b f n = dgv b f n ∧ 0 ≤ dgv b f n ∧ dgv b f n ≤ 10 ^ n - 1 := by
  intro n
  induction n with
  | zero => intro _ _; exact ⟨rfl, by show (0 : Int) ≤ 0; omega, by show (0 : Int) ≤ 10 ^ 0 - 1; omega⟩
  | succ n ih =>
    intro hn hb
    have h1 := ih (by omega) (fun i hi => hb i (by omega))
    have h2 := hb n (by omega)
    have e2 : (10 : Int) ^ (n + 1) = 10 ^ n * 10 := Int.pow_succ 10 n
    have h3 : (10 : Int) ^ n ≤ 1000 := by
      have hh : ∀ n, n < 4 → (10 : Int) ^ n ≤ 1000 := by decide
      exact hh n (by omega)
    have e : dgc b f (n + 1) = 10 * dgc b f n + b (f + n) - 48 := if_pos (by omega)
    have e3 : dgv b f (n + 1) = dgv b f n * 10 + b (f + n) - 48 := rfl
    rw [e, e3, e2]
    omega
theorem vl_f {b : Nat → Int} {t : TT} (k : TKW b t) : (vlv b t ≠ -1 ↔ (t.2.2.2 = -1 ∧ t.2.2.1 = 2 ∧ (t.2.1 : Int) - t.1 ≤ 4)) ∧ (vlv b t ≠ -1 → valv b t = vlv b t ∧ 0 ≤ vlv b t ∧ vlv b t ≤ 9999) := by
  by_cases h : t.2.2.2 = -1 ∧ t.2.2.1 = 2 ∧ (t.2.1 : Int) - t.1 ≤ 4
  · have e : vlv b t = dgv b t.1 (t.2.1 - t.1) := if_pos h
    have e2 : valv b t = dgc b t.1 (t.2.1 - t.1) := if_pos h.2.1
    have kk := k.1
    have h1 := dgc_dgv (b := b) (f := t.1) (t.2.1 - t.1) (by omega) (fun i hi => k.2.2 h.2.1 (t.1 + i) (by omega) (by omega))
    have h3 : (10 : Int) ^ (t.2.1 - t.1) ≤ 10000 := by
      have hh : ∀ n, n < 5 → (10 : Int) ^ n ≤ 10000 := by decide
      exact hh _ (by omega)
    rw [e, e2]
    exact ⟨⟨fun _ => h, fun _ => by omega⟩, fun _ => ⟨h1.1, h1.2.1, by omega⟩⟩
  · have e : vlv b t = -1 := if_neg h
    rw [e]
    exact ⟨⟨fun z => absurd rfl z, fun z => absurd z h⟩, fun z => absurd rfl z⟩
theorem dgc_r {b : Nat → Int} {f : Nat} : ∀ n, (∀ i, i < n → 48 ≤ b (f + i) ∧ b (f + i) ≤ 57) → 0 ≤ dgc b f n ∧ dgc b f n ≤ 10000000 := by
  intro n
  induction n with
  | zero => intro _; show (0 : Int) ≤ 0 ∧ (0 : Int) ≤ 10000000; omega
  | succ n ih =>
    intro hb
    have h1 := ih (fun i hi => hb i (by omega))
    have h2 := hb n (by omega)
    show 0 ≤ (if dgc b f n < 1000000 then 10 * dgc b f n + b (f + n) - 48 else dgc b f n) ∧ (if dgc b f n < 1000000 then 10 * dgc b f n + b (f + n) - 48 else dgc b f n) ≤ 10000000
    split <;> omega
theorem valv_r {b : Nat → Int} {t : TT} (k : TKW b t) : -2147483648 ≤ valv b t ∧ valv b t ≤ 2147483647 := by
  unfold valv
  split
  · next h =>
    have kk := k.1
    have := dgc_r (b := b) (f := t.1) (t.2.1 - t.1) (fun i hi => k.2.2 h (t.1 + i) (by omega) (by omega))
    omega
  · omega
end
