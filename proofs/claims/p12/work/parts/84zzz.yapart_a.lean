/-! APART, PART, exactly: the reference -/
theorem fsP_s2 {P : Int → Prop} {k : Nat} (h : ¬ P (k : Int)) : fsP P (k + 1) = fsP P k := by
  by_cases e : fsP P k = -1
  · rw [fsP_n e h, e]
  · exact fsP_k e
