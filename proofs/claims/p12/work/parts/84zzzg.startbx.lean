/-! THE BOOK AT THE START, with the class's own -/
set_option maxRecDepth 100000 in
set_option maxHeartbeats 16000000 in
theorem h3_27 : ∀ j, j < 144 → hA av_h3 27 j = 0 := by decide +kernel
theorem h3_CLS : CLS av_h3 := by
  refine ⟨fun _ _ => 0, fun _ => 0, ⟨fun i _ hi => ?_, fun l _ hl => ?_, fun c _ hc => ?_, fun i _ hi => ?_⟩, SUA_0 h3_27⟩
  · rw [h3_F.2.2.2.2.2.2.2.2.1] at hi
    omega
  · rw [h3_F.2.2.2.2.2.2.2.2.2.1] at hl
    omega
  · rw [h3_F.2.2.2.2.2.2.2.2.2.2.1] at hc
    omega
  · rw [h3_F.1] at hi
    omega
theorem h3_BX : BX av_h3 := ⟨h3_BK, h3_CLS⟩
