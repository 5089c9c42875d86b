/-! THE WHOLE LIBRARY IS WANTED: named at once, or nine parts are read twice -/
theorem av_wide : True := by
  have h := @Jvm.Stand.multianewarray2F
  exact trivial
