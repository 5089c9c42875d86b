/-! ONE CALL ON A FRESH OBJECT: [27] -/
set_option maxRecDepth 100000 in
set_option maxHeartbeats 8000000 in
theorem p1_op27 {f : Nat → Int} (hw : ∀ j, av_w (f j) = f j) (hf : ∀ j, -2147483648 ≤ f j ∧ f j ≤ 2147483647) {sc : av_Sr} (hsc : sc = some (6, f)) : av_wp sc cd_L 33 [some (.inr (.inr (.inr 100))), some (.inr (.inr (.inl (some 0)))), some (.inr (.inr (.inl (some 77)))), some (.inl (0))] [.inl 27] av_h3 (fun v h' => v = some (.inl 1) ∧ h'.1 ≤ 600000 ∧ h'.2.1 ≤ 7302250) := by
  subst hsc
  refine av_wp_st1 lk_L_33 (pc' := 1261) (lv' := [some (.inr (.inr (.inr 100))), some (.inr (.inr (.inl (some 0)))), some (.inr (.inr (.inl (some 77)))), some (.inl (0))]) (st' := []) (h' := av_h3) rfl rfl ?_
  refine av_wp_st1 lk_L_1261 (pc' := 1262) (lv' := [some (.inr (.inr (.inr 100))), some (.inr (.inr (.inl (some 0)))), some (.inr (.inr (.inl (some 77)))), some (.inl (0))]) (st' := [.inr (.inr (.inl (some 0)))]) (h' := av_h3) rfl rfl ?_
  refine av_wp_st1 lk_L_1262 (pc' := 1263) (lv' := [some (.inr (.inr (.inr 100))), some (.inr (.inr (.inl (some 0)))), some (.inr (.inr (.inl (some 77)))), some (.inl (0))]) (st' := [.inr (.inr (.inr 100)), .inr (.inr (.inl (some 0)))]) (h' := av_h3) rfl rfl ?_
  refine av_wp_st1 lk_L_1263 (pc' := 1264) (lv' := [some (.inr (.inr (.inr 100))), some (.inr (.inr (.inl (some 0)))), some (.inr (.inr (.inl (some 77)))), some (.inl (0))]) (st' := [.inl (0), .inr (.inr (.inr 100)), .inr (.inr (.inl (some 0)))]) (h' := av_h3) rfl rfl ?_
  refine av_wp_st1 lk_L_1264 (pc' := 1265) (lv' := [some (.inr (.inr (.inr 100))), some (.inr (.inr (.inl (some 0)))), some (.inr (.inr (.inl (some 77)))), some (.inl (0))]) (st' := [.inl (1), .inl (0), .inr (.inr (.inr 100)), .inr (.inr (.inl (some 0)))]) (h' := av_h3) rfl rfl ?_
  refine av_wp_st1 lk_L_1265 (pc' := 1266) (lv' := [some (.inr (.inr (.inr 100))), some (.inr (.inr (.inl (some 0)))), some (.inr (.inr (.inl (some 77)))), some (.inl (0))]) (st' := [.inl (1), .inr (.inr (.inr 100)), .inr (.inr (.inl (some 0)))]) (h' := av_h3) rfl rfl ?_
  refine av_wp_st1 lk_L_1266 (pc' := 1267) (lv' := [some (.inr (.inr (.inr 100))), some (.inr (.inr (.inl (some 0)))), some (.inr (.inr (.inl (some 77)))), some (.inl (0))]) (st' := [.inl (f 1), .inr (.inr (.inl (some 0)))]) (h' := av_h3) rfl rfl ?_
  refine av_wp_ck (av_qc (.invokevirtual 128) 125 1 0 7) 2 cd_125 [.inr (.inr (.inl (some 0))), .inl (f 1)] [] [some (.inr (.inr (.inl (some 0)))), some (.inl (f 1))] lk_L_1267 rfl pp_125 rfl (Nat.le_of_ble_eq_true rfl) rfl ?_
  refine av_wp_seq 1 (pc' := 1) (lv' := [some (.inr (.inr (.inl (some 0)))), some (.inl (f 1))]) (st' := [.inl (f 1)]) (h' := av_h3) rfl ?_
  rcases (show (f 1) < 0 ∨ 5 < (f 1) ∨ (f 1) = 0 ∨ (f 1) = 1 ∨ (f 1) = 2 ∨ (f 1) = 3 ∨ (f 1) = 4 ∨ (f 1) = 5 by omega) with q1 | q1 | q1 | q1 | q1 | q1 | q1 | q1
  · refine av_wp_tout (t := 85) rfl rfl (by rw [hw 1]; exact Or.inl q1) rfl ?_
    refine av_wp_seq 1 (pc' := 86) (lv' := [some (.inr (.inr (.inl (some 0)))), some (.inl (f 1))]) (st' := [.inl (-1)]) (h' := av_h3) rfl ?_
    refine av_wp_ret (v := (some (.inl (-1)))) rfl rfl rfl ?_
    show av_wp (some (6, f)) cd_L 1270 [some (.inr (.inr (.inr 100))), some (.inr (.inr (.inl (some 0)))), some (.inr (.inr (.inl (some 77)))), some (.inl (0))] [.inl (-1)] av_h3 _
    refine av_wp_st1 lk_L_1270 (pc' := 1271) (lv' := [some (.inr (.inr (.inr 100))), some (.inr (.inr (.inl (some 0)))), some (.inr (.inr (.inl (some 77)))), some (.inl (0))]) (st' := [.inr (.inr (.inl (some 77))), .inl (-1)]) (h' := av_h3) rfl rfl ?_
    refine av_wp_st1 lk_L_1271 (pc' := 1272) (lv' := [some (.inr (.inr (.inr 100))), some (.inr (.inr (.inl (some 0)))), some (.inr (.inr (.inl (some 77)))), some (.inl (0))]) (st' := [.inr (.inr (.inr 100)), .inr (.inr (.inl (some 77))), .inl (-1)]) (h' := av_h3) rfl rfl ?_
    refine av_wp_st1 lk_L_1272 (pc' := 1273) (lv' := [some (.inr (.inr (.inr 100))), some (.inr (.inr (.inl (some 0)))), some (.inr (.inr (.inl (some 77)))), some (.inl (0))]) (st' := [.inl (0), .inr (.inr (.inr 100)), .inr (.inr (.inl (some 77))), .inl (-1)]) (h' := av_h3) rfl rfl ?_
    refine av_wp_st1 lk_L_1273 (pc' := 1274) (lv' := [some (.inr (.inr (.inr 100))), some (.inr (.inr (.inl (some 0)))), some (.inr (.inr (.inl (some 77)))), some (.inl (0))]) (st' := [.inl (1), .inl (0), .inr (.inr (.inr 100)), .inr (.inr (.inl (some 77))), .inl (-1)]) (h' := av_h3) rfl rfl ?_
    refine av_wp_st1 lk_L_1274 (pc' := 1275) (lv' := [some (.inr (.inr (.inr 100))), some (.inr (.inr (.inl (some 0)))), some (.inr (.inr (.inl (some 77)))), some (.inl (0))]) (st' := [.inl (1), .inr (.inr (.inr 100)), .inr (.inr (.inl (some 77))), .inl (-1)]) (h' := av_h3) rfl rfl ?_
    refine av_wp_st1 lk_L_1275 (pc' := 1276) (lv' := [some (.inr (.inr (.inr 100))), some (.inr (.inr (.inl (some 0)))), some (.inr (.inr (.inl (some 77)))), some (.inl (0))]) (st' := [.inl (f 1), .inr (.inr (.inl (some 77))), .inl (-1)]) (h' := av_h3) rfl rfl ?_
    refine av_wp_ck (av_qc (.invokevirtual 131) 217 1 0 8) 2 cd_217 [.inr (.inr (.inl (some 77))), .inl (f 1)] [.inl (-1)] [some (.inr (.inr (.inl (some 77)))), some (.inl (f 1))] lk_L_1276 rfl pp_217 rfl (Nat.le_of_ble_eq_true rfl) rfl ?_
    refine av_wp_seq 1 (pc' := 1) (lv' := [some (.inr (.inr (.inl (some 77)))), some (.inl (f 1))]) (st' := [.inl (f 1)]) (h' := av_h3) rfl ?_
    rcases (show (f 1) < 0 by omega) with q2
    · refine av_wp_tout (t := 76) rfl rfl (by rw [hw 1]; exact Or.inl q2) rfl ?_
      refine av_wp_seq 1 (pc' := 77) (lv' := [some (.inr (.inr (.inl (some 77)))), some (.inl (f 1))]) (st' := [.inl (-1)]) (h' := av_h3) rfl ?_
      refine av_wp_ret (v := (some (.inl (-1)))) rfl rfl rfl ?_
      show av_wp (some (6, f)) cd_L 1279 [some (.inr (.inr (.inr 100))), some (.inr (.inr (.inl (some 0)))), some (.inr (.inr (.inl (some 77)))), some (.inl (0))] [.inl (-1), .inl (-1)] av_h3 _
      refine av_wp_st1 lk_L_1279 (pc' := 1284) (lv' := [some (.inr (.inr (.inr 100))), some (.inr (.inr (.inl (some 0)))), some (.inr (.inr (.inl (some 77)))), some (.inl (0))]) (st' := []) (h' := av_h3) rfl rfl ?_
      refine av_wp_st1 lk_L_1284 (pc' := 1287) (lv' := [some (.inr (.inr (.inr 100))), some (.inr (.inr (.inl (some 0)))), some (.inr (.inr (.inl (some 77)))), some (.inl (6))]) (st' := []) (h' := av_h3) rfl rfl ?_
      refine av_wp_st1 lk_L_1287 (pc' := 18) (lv' := [some (.inr (.inr (.inr 100))), some (.inr (.inr (.inl (some 0)))), some (.inr (.inr (.inl (some 77)))), some (.inl (6))]) (st' := []) (h' := av_h3) rfl rfl ?_
      refine av_wp_st1 lk_L_18 (pc' := 19) (lv' := [some (.inr (.inr (.inr 100))), some (.inr (.inr (.inl (some 0)))), some (.inr (.inr (.inl (some 77)))), some (.inl (6))]) (st' := [.inl (6)]) (h' := av_h3) rfl rfl ?_
      refine av_wp_st1 lk_L_19 (pc' := 20) (lv' := [some (.inr (.inr (.inr 100))), some (.inr (.inr (.inl (some 0)))), some (.inr (.inr (.inl (some 77)))), some (.inl (6))]) (st' := [.inr (.inr (.inr 100)), .inl (6)]) (h' := av_h3) rfl rfl ?_
      refine av_wp_st1 lk_L_20 (pc' := 21) (lv' := [some (.inr (.inr (.inr 100))), some (.inr (.inr (.inl (some 0)))), some (.inr (.inr (.inl (some 77)))), some (.inl (6))]) (st' := [.inl (6), .inl (6)]) (h' := av_h3) rfl rfl ?_
      refine av_wp_st1 lk_L_21 (pc' := 23) (lv' := [some (.inr (.inr (.inr 100))), some (.inr (.inr (.inl (some 0)))), some (.inr (.inr (.inl (some 77)))), some (.inl (6))]) (st' := [.inl (6), .inl (6), .inl (6)]) (h' := av_h3) rfl rfl ?_
      refine av_wp_st1 lk_L_23 (pc' := 24) (lv' := [some (.inr (.inr (.inr 100))), some (.inr (.inr (.inl (some 0)))), some (.inr (.inr (.inl (some 77)))), some (.inl (6))]) (st' := [.inl (0), .inl (6)]) (h' := av_h3) rfl rfl ?_
      refine av_wp_st1 lk_L_24 (pc' := 1290) (lv' := [some (.inr (.inr (.inr 100))), some (.inr (.inr (.inl (some 0)))), some (.inr (.inr (.inl (some 77)))), some (.inl (6))]) (st' := []) (h' := av_h3) rfl rfl ?_
      refine av_wp_st1 lk_L_1290 (pc' := 1291) (lv' := [some (.inr (.inr (.inr 100))), some (.inr (.inr (.inl (some 0)))), some (.inr (.inr (.inl (some 77)))), some (.inl (6))]) (st' := [.inl (1)]) (h' := av_h3) rfl rfl ?_
      refine av_wp_ret (v := (some (.inl (1)))) lk_L_1291 rfl rfl ?_
      exact ⟨rfl, Nat.le_of_ble_eq_true rfl, Nat.le_of_ble_eq_true rfl⟩
  · refine av_wp_tout (t := 85) rfl rfl (by rw [hw 1]; exact Or.inr q1) rfl ?_
    refine av_wp_seq 1 (pc' := 86) (lv' := [some (.inr (.inr (.inl (some 0)))), some (.inl (f 1))]) (st' := [.inl (-1)]) (h' := av_h3) rfl ?_
    refine av_wp_ret (v := (some (.inl (-1)))) rfl rfl rfl ?_
    show av_wp (some (6, f)) cd_L 1270 [some (.inr (.inr (.inr 100))), some (.inr (.inr (.inl (some 0)))), some (.inr (.inr (.inl (some 77)))), some (.inl (0))] [.inl (-1)] av_h3 _
    refine av_wp_st1 lk_L_1270 (pc' := 1271) (lv' := [some (.inr (.inr (.inr 100))), some (.inr (.inr (.inl (some 0)))), some (.inr (.inr (.inl (some 77)))), some (.inl (0))]) (st' := [.inr (.inr (.inl (some 77))), .inl (-1)]) (h' := av_h3) rfl rfl ?_
    refine av_wp_st1 lk_L_1271 (pc' := 1272) (lv' := [some (.inr (.inr (.inr 100))), some (.inr (.inr (.inl (some 0)))), some (.inr (.inr (.inl (some 77)))), some (.inl (0))]) (st' := [.inr (.inr (.inr 100)), .inr (.inr (.inl (some 77))), .inl (-1)]) (h' := av_h3) rfl rfl ?_
    refine av_wp_st1 lk_L_1272 (pc' := 1273) (lv' := [some (.inr (.inr (.inr 100))), some (.inr (.inr (.inl (some 0)))), some (.inr (.inr (.inl (some 77)))), some (.inl (0))]) (st' := [.inl (0), .inr (.inr (.inr 100)), .inr (.inr (.inl (some 77))), .inl (-1)]) (h' := av_h3) rfl rfl ?_
    refine av_wp_st1 lk_L_1273 (pc' := 1274) (lv' := [some (.inr (.inr (.inr 100))), some (.inr (.inr (.inl (some 0)))), some (.inr (.inr (.inl (some 77)))), some (.inl (0))]) (st' := [.inl (1), .inl (0), .inr (.inr (.inr 100)), .inr (.inr (.inl (some 77))), .inl (-1)]) (h' := av_h3) rfl rfl ?_
    refine av_wp_st1 lk_L_1274 (pc' := 1275) (lv' := [some (.inr (.inr (.inr 100))), some (.inr (.inr (.inl (some 0)))), some (.inr (.inr (.inl (some 77)))), some (.inl (0))]) (st' := [.inl (1), .inr (.inr (.inr 100)), .inr (.inr (.inl (some 77))), .inl (-1)]) (h' := av_h3) rfl rfl ?_
    refine av_wp_st1 lk_L_1275 (pc' := 1276) (lv' := [some (.inr (.inr (.inr 100))), some (.inr (.inr (.inl (some 0)))), some (.inr (.inr (.inl (some 77)))), some (.inl (0))]) (st' := [.inl (f 1), .inr (.inr (.inl (some 77))), .inl (-1)]) (h' := av_h3) rfl rfl ?_
    refine av_wp_ck (av_qc (.invokevirtual 131) 217 1 0 8) 2 cd_217 [.inr (.inr (.inl (some 77))), .inl (f 1)] [.inl (-1)] [some (.inr (.inr (.inl (some 77)))), some (.inl (f 1))] lk_L_1276 rfl pp_217 rfl (Nat.le_of_ble_eq_true rfl) rfl ?_
    refine av_wp_seq 1 (pc' := 1) (lv' := [some (.inr (.inr (.inl (some 77)))), some (.inl (f 1))]) (st' := [.inl (f 1)]) (h' := av_h3) rfl ?_
    rcases (show 5 < (f 1) by omega) with q3
    · refine av_wp_tout (t := 76) rfl rfl (by rw [hw 1]; exact Or.inr q3) rfl ?_
      refine av_wp_seq 1 (pc' := 77) (lv' := [some (.inr (.inr (.inl (some 77)))), some (.inl (f 1))]) (st' := [.inl (-1)]) (h' := av_h3) rfl ?_
      refine av_wp_ret (v := (some (.inl (-1)))) rfl rfl rfl ?_
      show av_wp (some (6, f)) cd_L 1279 [some (.inr (.inr (.inr 100))), some (.inr (.inr (.inl (some 0)))), some (.inr (.inr (.inl (some 77)))), some (.inl (0))] [.inl (-1), .inl (-1)] av_h3 _
      refine av_wp_st1 lk_L_1279 (pc' := 1284) (lv' := [some (.inr (.inr (.inr 100))), some (.inr (.inr (.inl (some 0)))), some (.inr (.inr (.inl (some 77)))), some (.inl (0))]) (st' := []) (h' := av_h3) rfl rfl ?_
      refine av_wp_st1 lk_L_1284 (pc' := 1287) (lv' := [some (.inr (.inr (.inr 100))), some (.inr (.inr (.inl (some 0)))), some (.inr (.inr (.inl (some 77)))), some (.inl (6))]) (st' := []) (h' := av_h3) rfl rfl ?_
      refine av_wp_st1 lk_L_1287 (pc' := 18) (lv' := [some (.inr (.inr (.inr 100))), some (.inr (.inr (.inl (some 0)))), some (.inr (.inr (.inl (some 77)))), some (.inl (6))]) (st' := []) (h' := av_h3) rfl rfl ?_
      refine av_wp_st1 lk_L_18 (pc' := 19) (lv' := [some (.inr (.inr (.inr 100))), some (.inr (.inr (.inl (some 0)))), some (.inr (.inr (.inl (some 77)))), some (.inl (6))]) (st' := [.inl (6)]) (h' := av_h3) rfl rfl ?_
      refine av_wp_st1 lk_L_19 (pc' := 20) (lv' := [some (.inr (.inr (.inr 100))), some (.inr (.inr (.inl (some 0)))), some (.inr (.inr (.inl (some 77)))), some (.inl (6))]) (st' := [.inr (.inr (.inr 100)), .inl (6)]) (h' := av_h3) rfl rfl ?_
      refine av_wp_st1 lk_L_20 (pc' := 21) (lv' := [some (.inr (.inr (.inr 100))), some (.inr (.inr (.inl (some 0)))), some (.inr (.inr (.inl (some 77)))), some (.inl (6))]) (st' := [.inl (6), .inl (6)]) (h' := av_h3) rfl rfl ?_
      refine av_wp_st1 lk_L_21 (pc' := 23) (lv' := [some (.inr (.inr (.inr 100))), some (.inr (.inr (.inl (some 0)))), some (.inr (.inr (.inl (some 77)))), some (.inl (6))]) (st' := [.inl (6), .inl (6), .inl (6)]) (h' := av_h3) rfl rfl ?_
      refine av_wp_st1 lk_L_23 (pc' := 24) (lv' := [some (.inr (.inr (.inr 100))), some (.inr (.inr (.inl (some 0)))), some (.inr (.inr (.inl (some 77)))), some (.inl (6))]) (st' := [.inl (0), .inl (6)]) (h' := av_h3) rfl rfl ?_
      refine av_wp_st1 lk_L_24 (pc' := 1290) (lv' := [some (.inr (.inr (.inr 100))), some (.inr (.inr (.inl (some 0)))), some (.inr (.inr (.inl (some 77)))), some (.inl (6))]) (st' := []) (h' := av_h3) rfl rfl ?_
      refine av_wp_st1 lk_L_1290 (pc' := 1291) (lv' := [some (.inr (.inr (.inr 100))), some (.inr (.inr (.inl (some 0)))), some (.inr (.inr (.inl (some 77)))), some (.inl (6))]) (st' := [.inl (1)]) (h' := av_h3) rfl rfl ?_
      refine av_wp_ret (v := (some (.inl (1)))) lk_L_1291 rfl rfl ?_
      exact ⟨rfl, Nat.le_of_ble_eq_true rfl, Nat.le_of_ble_eq_true rfl⟩
  · rw [q1]
    refine av_wp_seq 4 (pc' := 47) (lv' := [some (.inr (.inr (.inl (some 0)))), some (.inl (0))]) (st' := [.inl (0)]) (h' := av_h3) rfl ?_
    refine av_wp_ret (v := (some (.inl (0)))) rfl rfl rfl ?_
    show av_wp (some (6, f)) cd_L 1270 [some (.inr (.inr (.inr 100))), some (.inr (.inr (.inl (some 0)))), some (.inr (.inr (.inl (some 77)))), some (.inl (0))] [.inl (0)] av_h3 _
    refine av_wp_st1 lk_L_1270 (pc' := 1271) (lv' := [some (.inr (.inr (.inr 100))), some (.inr (.inr (.inl (some 0)))), some (.inr (.inr (.inl (some 77)))), some (.inl (0))]) (st' := [.inr (.inr (.inl (some 77))), .inl (0)]) (h' := av_h3) rfl rfl ?_
    refine av_wp_st1 lk_L_1271 (pc' := 1272) (lv' := [some (.inr (.inr (.inr 100))), some (.inr (.inr (.inl (some 0)))), some (.inr (.inr (.inl (some 77)))), some (.inl (0))]) (st' := [.inr (.inr (.inr 100)), .inr (.inr (.inl (some 77))), .inl (0)]) (h' := av_h3) rfl rfl ?_
    refine av_wp_st1 lk_L_1272 (pc' := 1273) (lv' := [some (.inr (.inr (.inr 100))), some (.inr (.inr (.inl (some 0)))), some (.inr (.inr (.inl (some 77)))), some (.inl (0))]) (st' := [.inl (0), .inr (.inr (.inr 100)), .inr (.inr (.inl (some 77))), .inl (0)]) (h' := av_h3) rfl rfl ?_
    refine av_wp_st1 lk_L_1273 (pc' := 1274) (lv' := [some (.inr (.inr (.inr 100))), some (.inr (.inr (.inl (some 0)))), some (.inr (.inr (.inl (some 77)))), some (.inl (0))]) (st' := [.inl (1), .inl (0), .inr (.inr (.inr 100)), .inr (.inr (.inl (some 77))), .inl (0)]) (h' := av_h3) rfl rfl ?_
    refine av_wp_st1 lk_L_1274 (pc' := 1275) (lv' := [some (.inr (.inr (.inr 100))), some (.inr (.inr (.inl (some 0)))), some (.inr (.inr (.inl (some 77)))), some (.inl (0))]) (st' := [.inl (1), .inr (.inr (.inr 100)), .inr (.inr (.inl (some 77))), .inl (0)]) (h' := av_h3) rfl rfl ?_
    refine av_wp_st1 lk_L_1275 (pc' := 1276) (lv' := [some (.inr (.inr (.inr 100))), some (.inr (.inr (.inl (some 0)))), some (.inr (.inr (.inl (some 77)))), some (.inl (0))]) (st' := [.inl (f 1), .inr (.inr (.inl (some 77))), .inl (0)]) (h' := av_h3) rfl rfl ?_
    refine av_wp_ck (av_qc (.invokevirtual 131) 217 1 0 8) 2 cd_217 [.inr (.inr (.inl (some 77))), .inl (f 1)] [.inl (0)] [some (.inr (.inr (.inl (some 77)))), some (.inl (f 1))] lk_L_1276 rfl pp_217 rfl (Nat.le_of_ble_eq_true rfl) rfl ?_
    refine av_wp_seq 1 (pc' := 1) (lv' := [some (.inr (.inr (.inl (some 77)))), some (.inl (f 1))]) (st' := [.inl (f 1)]) (h' := av_h3) rfl ?_
    rcases (show (f 1) = 0 by omega) with q4
    · rw [q4]
      refine av_wp_seq 5 (pc' := 46) (lv' := [some (.inr (.inr (.inl (some 77)))), some (.inl (0))]) (st' := [.inl (0)]) (h' := av_h3) rfl ?_
      refine av_wp_ret (v := (some (.inl (0)))) rfl rfl rfl ?_
      show av_wp (some (6, f)) cd_L 1279 [some (.inr (.inr (.inr 100))), some (.inr (.inr (.inl (some 0)))), some (.inr (.inr (.inl (some 77)))), some (.inl (0))] [.inl (0), .inl (0)] av_h3 _
      refine av_wp_st1 lk_L_1279 (pc' := 1284) (lv' := [some (.inr (.inr (.inr 100))), some (.inr (.inr (.inl (some 0)))), some (.inr (.inr (.inl (some 77)))), some (.inl (0))]) (st' := []) (h' := av_h3) rfl rfl ?_
      refine av_wp_st1 lk_L_1284 (pc' := 1287) (lv' := [some (.inr (.inr (.inr 100))), some (.inr (.inr (.inl (some 0)))), some (.inr (.inr (.inl (some 77)))), some (.inl (6))]) (st' := []) (h' := av_h3) rfl rfl ?_
      refine av_wp_st1 lk_L_1287 (pc' := 18) (lv' := [some (.inr (.inr (.inr 100))), some (.inr (.inr (.inl (some 0)))), some (.inr (.inr (.inl (some 77)))), some (.inl (6))]) (st' := []) (h' := av_h3) rfl rfl ?_
      refine av_wp_st1 lk_L_18 (pc' := 19) (lv' := [some (.inr (.inr (.inr 100))), some (.inr (.inr (.inl (some 0)))), some (.inr (.inr (.inl (some 77)))), some (.inl (6))]) (st' := [.inl (6)]) (h' := av_h3) rfl rfl ?_
      refine av_wp_st1 lk_L_19 (pc' := 20) (lv' := [some (.inr (.inr (.inr 100))), some (.inr (.inr (.inl (some 0)))), some (.inr (.inr (.inl (some 77)))), some (.inl (6))]) (st' := [.inr (.inr (.inr 100)), .inl (6)]) (h' := av_h3) rfl rfl ?_
      refine av_wp_st1 lk_L_20 (pc' := 21) (lv' := [some (.inr (.inr (.inr 100))), some (.inr (.inr (.inl (some 0)))), some (.inr (.inr (.inl (some 77)))), some (.inl (6))]) (st' := [.inl (6), .inl (6)]) (h' := av_h3) rfl rfl ?_
      refine av_wp_st1 lk_L_21 (pc' := 23) (lv' := [some (.inr (.inr (.inr 100))), some (.inr (.inr (.inl (some 0)))), some (.inr (.inr (.inl (some 77)))), some (.inl (6))]) (st' := [.inl (6), .inl (6), .inl (6)]) (h' := av_h3) rfl rfl ?_
      refine av_wp_st1 lk_L_23 (pc' := 24) (lv' := [some (.inr (.inr (.inr 100))), some (.inr (.inr (.inl (some 0)))), some (.inr (.inr (.inl (some 77)))), some (.inl (6))]) (st' := [.inl (0), .inl (6)]) (h' := av_h3) rfl rfl ?_
      refine av_wp_st1 lk_L_24 (pc' := 1290) (lv' := [some (.inr (.inr (.inr 100))), some (.inr (.inr (.inl (some 0)))), some (.inr (.inr (.inl (some 77)))), some (.inl (6))]) (st' := []) (h' := av_h3) rfl rfl ?_
      refine av_wp_st1 lk_L_1290 (pc' := 1291) (lv' := [some (.inr (.inr (.inr 100))), some (.inr (.inr (.inl (some 0)))), some (.inr (.inr (.inl (some 77)))), some (.inl (6))]) (st' := [.inl (1)]) (h' := av_h3) rfl rfl ?_
      refine av_wp_ret (v := (some (.inl (1)))) lk_L_1291 rfl rfl ?_
      exact ⟨rfl, Nat.le_of_ble_eq_true rfl, Nat.le_of_ble_eq_true rfl⟩
  · rw [q1]
    refine av_wp_seq 4 (pc' := 55) (lv' := [some (.inr (.inr (.inl (some 0)))), some (.inl (1))]) (st' := [.inl (0)]) (h' := av_h3) rfl ?_
    refine av_wp_ret (v := (some (.inl (0)))) rfl rfl rfl ?_
    show av_wp (some (6, f)) cd_L 1270 [some (.inr (.inr (.inr 100))), some (.inr (.inr (.inl (some 0)))), some (.inr (.inr (.inl (some 77)))), some (.inl (0))] [.inl (0)] av_h3 _
    refine av_wp_st1 lk_L_1270 (pc' := 1271) (lv' := [some (.inr (.inr (.inr 100))), some (.inr (.inr (.inl (some 0)))), some (.inr (.inr (.inl (some 77)))), some (.inl (0))]) (st' := [.inr (.inr (.inl (some 77))), .inl (0)]) (h' := av_h3) rfl rfl ?_
    refine av_wp_st1 lk_L_1271 (pc' := 1272) (lv' := [some (.inr (.inr (.inr 100))), some (.inr (.inr (.inl (some 0)))), some (.inr (.inr (.inl (some 77)))), some (.inl (0))]) (st' := [.inr (.inr (.inr 100)), .inr (.inr (.inl (some 77))), .inl (0)]) (h' := av_h3) rfl rfl ?_
    refine av_wp_st1 lk_L_1272 (pc' := 1273) (lv' := [some (.inr (.inr (.inr 100))), some (.inr (.inr (.inl (some 0)))), some (.inr (.inr (.inl (some 77)))), some (.inl (0))]) (st' := [.inl (0), .inr (.inr (.inr 100)), .inr (.inr (.inl (some 77))), .inl (0)]) (h' := av_h3) rfl rfl ?_
    refine av_wp_st1 lk_L_1273 (pc' := 1274) (lv' := [some (.inr (.inr (.inr 100))), some (.inr (.inr (.inl (some 0)))), some (.inr (.inr (.inl (some 77)))), some (.inl (0))]) (st' := [.inl (1), .inl (0), .inr (.inr (.inr 100)), .inr (.inr (.inl (some 77))), .inl (0)]) (h' := av_h3) rfl rfl ?_
    refine av_wp_st1 lk_L_1274 (pc' := 1275) (lv' := [some (.inr (.inr (.inr 100))), some (.inr (.inr (.inl (some 0)))), some (.inr (.inr (.inl (some 77)))), some (.inl (0))]) (st' := [.inl (1), .inr (.inr (.inr 100)), .inr (.inr (.inl (some 77))), .inl (0)]) (h' := av_h3) rfl rfl ?_
    refine av_wp_st1 lk_L_1275 (pc' := 1276) (lv' := [some (.inr (.inr (.inr 100))), some (.inr (.inr (.inl (some 0)))), some (.inr (.inr (.inl (some 77)))), some (.inl (0))]) (st' := [.inl (f 1), .inr (.inr (.inl (some 77))), .inl (0)]) (h' := av_h3) rfl rfl ?_
    refine av_wp_ck (av_qc (.invokevirtual 131) 217 1 0 8) 2 cd_217 [.inr (.inr (.inl (some 77))), .inl (f 1)] [.inl (0)] [some (.inr (.inr (.inl (some 77)))), some (.inl (f 1))] lk_L_1276 rfl pp_217 rfl (Nat.le_of_ble_eq_true rfl) rfl ?_
    refine av_wp_seq 1 (pc' := 1) (lv' := [some (.inr (.inr (.inl (some 77)))), some (.inl (f 1))]) (st' := [.inl (f 1)]) (h' := av_h3) rfl ?_
    rcases (show (f 1) = 1 by omega) with q5
    · rw [q5]
      refine av_wp_seq 5 (pc' := 53) (lv' := [some (.inr (.inr (.inl (some 77)))), some (.inl (1))]) (st' := [.inl (0)]) (h' := av_h3) rfl ?_
      refine av_wp_ret (v := (some (.inl (0)))) rfl rfl rfl ?_
      show av_wp (some (6, f)) cd_L 1279 [some (.inr (.inr (.inr 100))), some (.inr (.inr (.inl (some 0)))), some (.inr (.inr (.inl (some 77)))), some (.inl (0))] [.inl (0), .inl (0)] av_h3 _
      refine av_wp_st1 lk_L_1279 (pc' := 1284) (lv' := [some (.inr (.inr (.inr 100))), some (.inr (.inr (.inl (some 0)))), some (.inr (.inr (.inl (some 77)))), some (.inl (0))]) (st' := []) (h' := av_h3) rfl rfl ?_
      refine av_wp_st1 lk_L_1284 (pc' := 1287) (lv' := [some (.inr (.inr (.inr 100))), some (.inr (.inr (.inl (some 0)))), some (.inr (.inr (.inl (some 77)))), some (.inl (6))]) (st' := []) (h' := av_h3) rfl rfl ?_
      refine av_wp_st1 lk_L_1287 (pc' := 18) (lv' := [some (.inr (.inr (.inr 100))), some (.inr (.inr (.inl (some 0)))), some (.inr (.inr (.inl (some 77)))), some (.inl (6))]) (st' := []) (h' := av_h3) rfl rfl ?_
      refine av_wp_st1 lk_L_18 (pc' := 19) (lv' := [some (.inr (.inr (.inr 100))), some (.inr (.inr (.inl (some 0)))), some (.inr (.inr (.inl (some 77)))), some (.inl (6))]) (st' := [.inl (6)]) (h' := av_h3) rfl rfl ?_
      refine av_wp_st1 lk_L_19 (pc' := 20) (lv' := [some (.inr (.inr (.inr 100))), some (.inr (.inr (.inl (some 0)))), some (.inr (.inr (.inl (some 77)))), some (.inl (6))]) (st' := [.inr (.inr (.inr 100)), .inl (6)]) (h' := av_h3) rfl rfl ?_
      refine av_wp_st1 lk_L_20 (pc' := 21) (lv' := [some (.inr (.inr (.inr 100))), some (.inr (.inr (.inl (some 0)))), some (.inr (.inr (.inl (some 77)))), some (.inl (6))]) (st' := [.inl (6), .inl (6)]) (h' := av_h3) rfl rfl ?_
      refine av_wp_st1 lk_L_21 (pc' := 23) (lv' := [some (.inr (.inr (.inr 100))), some (.inr (.inr (.inl (some 0)))), some (.inr (.inr (.inl (some 77)))), some (.inl (6))]) (st' := [.inl (6), .inl (6), .inl (6)]) (h' := av_h3) rfl rfl ?_
      refine av_wp_st1 lk_L_23 (pc' := 24) (lv' := [some (.inr (.inr (.inr 100))), some (.inr (.inr (.inl (some 0)))), some (.inr (.inr (.inl (some 77)))), some (.inl (6))]) (st' := [.inl (0), .inl (6)]) (h' := av_h3) rfl rfl ?_
      refine av_wp_st1 lk_L_24 (pc' := 1290) (lv' := [some (.inr (.inr (.inr 100))), some (.inr (.inr (.inl (some 0)))), some (.inr (.inr (.inl (some 77)))), some (.inl (6))]) (st' := []) (h' := av_h3) rfl rfl ?_
      refine av_wp_st1 lk_L_1290 (pc' := 1291) (lv' := [some (.inr (.inr (.inr 100))), some (.inr (.inr (.inl (some 0)))), some (.inr (.inr (.inl (some 77)))), some (.inl (6))]) (st' := [.inl (1)]) (h' := av_h3) rfl rfl ?_
      refine av_wp_ret (v := (some (.inl (1)))) lk_L_1291 rfl rfl ?_
      exact ⟨rfl, Nat.le_of_ble_eq_true rfl, Nat.le_of_ble_eq_true rfl⟩
  · rw [q1]
    refine av_wp_seq 4 (pc' := 63) (lv' := [some (.inr (.inr (.inl (some 0)))), some (.inl (2))]) (st' := [.inl (0)]) (h' := av_h3) rfl ?_
    refine av_wp_ret (v := (some (.inl (0)))) rfl rfl rfl ?_
    show av_wp (some (6, f)) cd_L 1270 [some (.inr (.inr (.inr 100))), some (.inr (.inr (.inl (some 0)))), some (.inr (.inr (.inl (some 77)))), some (.inl (0))] [.inl (0)] av_h3 _
    refine av_wp_st1 lk_L_1270 (pc' := 1271) (lv' := [some (.inr (.inr (.inr 100))), some (.inr (.inr (.inl (some 0)))), some (.inr (.inr (.inl (some 77)))), some (.inl (0))]) (st' := [.inr (.inr (.inl (some 77))), .inl (0)]) (h' := av_h3) rfl rfl ?_
    refine av_wp_st1 lk_L_1271 (pc' := 1272) (lv' := [some (.inr (.inr (.inr 100))), some (.inr (.inr (.inl (some 0)))), some (.inr (.inr (.inl (some 77)))), some (.inl (0))]) (st' := [.inr (.inr (.inr 100)), .inr (.inr (.inl (some 77))), .inl (0)]) (h' := av_h3) rfl rfl ?_
    refine av_wp_st1 lk_L_1272 (pc' := 1273) (lv' := [some (.inr (.inr (.inr 100))), some (.inr (.inr (.inl (some 0)))), some (.inr (.inr (.inl (some 77)))), some (.inl (0))]) (st' := [.inl (0), .inr (.inr (.inr 100)), .inr (.inr (.inl (some 77))), .inl (0)]) (h' := av_h3) rfl rfl ?_
    refine av_wp_st1 lk_L_1273 (pc' := 1274) (lv' := [some (.inr (.inr (.inr 100))), some (.inr (.inr (.inl (some 0)))), some (.inr (.inr (.inl (some 77)))), some (.inl (0))]) (st' := [.inl (1), .inl (0), .inr (.inr (.inr 100)), .inr (.inr (.inl (some 77))), .inl (0)]) (h' := av_h3) rfl rfl ?_
    refine av_wp_st1 lk_L_1274 (pc' := 1275) (lv' := [some (.inr (.inr (.inr 100))), some (.inr (.inr (.inl (some 0)))), some (.inr (.inr (.inl (some 77)))), some (.inl (0))]) (st' := [.inl (1), .inr (.inr (.inr 100)), .inr (.inr (.inl (some 77))), .inl (0)]) (h' := av_h3) rfl rfl ?_
    refine av_wp_st1 lk_L_1275 (pc' := 1276) (lv' := [some (.inr (.inr (.inr 100))), some (.inr (.inr (.inl (some 0)))), some (.inr (.inr (.inl (some 77)))), some (.inl (0))]) (st' := [.inl (f 1), .inr (.inr (.inl (some 77))), .inl (0)]) (h' := av_h3) rfl rfl ?_
    refine av_wp_ck (av_qc (.invokevirtual 131) 217 1 0 8) 2 cd_217 [.inr (.inr (.inl (some 77))), .inl (f 1)] [.inl (0)] [some (.inr (.inr (.inl (some 77)))), some (.inl (f 1))] lk_L_1276 rfl pp_217 rfl (Nat.le_of_ble_eq_true rfl) rfl ?_
    refine av_wp_seq 1 (pc' := 1) (lv' := [some (.inr (.inr (.inl (some 77)))), some (.inl (f 1))]) (st' := [.inl (f 1)]) (h' := av_h3) rfl ?_
    rcases (show (f 1) = 2 by omega) with q6
    · rw [q6]
      refine av_wp_seq 5 (pc' := 60) (lv' := [some (.inr (.inr (.inl (some 77)))), some (.inl (2))]) (st' := [.inl (0)]) (h' := av_h3) rfl ?_
      refine av_wp_ret (v := (some (.inl (0)))) rfl rfl rfl ?_
      show av_wp (some (6, f)) cd_L 1279 [some (.inr (.inr (.inr 100))), some (.inr (.inr (.inl (some 0)))), some (.inr (.inr (.inl (some 77)))), some (.inl (0))] [.inl (0), .inl (0)] av_h3 _
      refine av_wp_st1 lk_L_1279 (pc' := 1284) (lv' := [some (.inr (.inr (.inr 100))), some (.inr (.inr (.inl (some 0)))), some (.inr (.inr (.inl (some 77)))), some (.inl (0))]) (st' := []) (h' := av_h3) rfl rfl ?_
      refine av_wp_st1 lk_L_1284 (pc' := 1287) (lv' := [some (.inr (.inr (.inr 100))), some (.inr (.inr (.inl (some 0)))), some (.inr (.inr (.inl (some 77)))), some (.inl (6))]) (st' := []) (h' := av_h3) rfl rfl ?_
      refine av_wp_st1 lk_L_1287 (pc' := 18) (lv' := [some (.inr (.inr (.inr 100))), some (.inr (.inr (.inl (some 0)))), some (.inr (.inr (.inl (some 77)))), some (.inl (6))]) (st' := []) (h' := av_h3) rfl rfl ?_
      refine av_wp_st1 lk_L_18 (pc' := 19) (lv' := [some (.inr (.inr (.inr 100))), some (.inr (.inr (.inl (some 0)))), some (.inr (.inr (.inl (some 77)))), some (.inl (6))]) (st' := [.inl (6)]) (h' := av_h3) rfl rfl ?_
      refine av_wp_st1 lk_L_19 (pc' := 20) (lv' := [some (.inr (.inr (.inr 100))), some (.inr (.inr (.inl (some 0)))), some (.inr (.inr (.inl (some 77)))), some (.inl (6))]) (st' := [.inr (.inr (.inr 100)), .inl (6)]) (h' := av_h3) rfl rfl ?_
      refine av_wp_st1 lk_L_20 (pc' := 21) (lv' := [some (.inr (.inr (.inr 100))), some (.inr (.inr (.inl (some 0)))), some (.inr (.inr (.inl (some 77)))), some (.inl (6))]) (st' := [.inl (6), .inl (6)]) (h' := av_h3) rfl rfl ?_
      refine av_wp_st1 lk_L_21 (pc' := 23) (lv' := [some (.inr (.inr (.inr 100))), some (.inr (.inr (.inl (some 0)))), some (.inr (.inr (.inl (some 77)))), some (.inl (6))]) (st' := [.inl (6), .inl (6), .inl (6)]) (h' := av_h3) rfl rfl ?_
      refine av_wp_st1 lk_L_23 (pc' := 24) (lv' := [some (.inr (.inr (.inr 100))), some (.inr (.inr (.inl (some 0)))), some (.inr (.inr (.inl (some 77)))), some (.inl (6))]) (st' := [.inl (0), .inl (6)]) (h' := av_h3) rfl rfl ?_
      refine av_wp_st1 lk_L_24 (pc' := 1290) (lv' := [some (.inr (.inr (.inr 100))), some (.inr (.inr (.inl (some 0)))), some (.inr (.inr (.inl (some 77)))), some (.inl (6))]) (st' := []) (h' := av_h3) rfl rfl ?_
      refine av_wp_st1 lk_L_1290 (pc' := 1291) (lv' := [some (.inr (.inr (.inr 100))), some (.inr (.inr (.inl (some 0)))), some (.inr (.inr (.inl (some 77)))), some (.inl (6))]) (st' := [.inl (1)]) (h' := av_h3) rfl rfl ?_
      refine av_wp_ret (v := (some (.inl (1)))) lk_L_1291 rfl rfl ?_
      exact ⟨rfl, Nat.le_of_ble_eq_true rfl, Nat.le_of_ble_eq_true rfl⟩
  · rw [q1]
    refine av_wp_seq 4 (pc' := 71) (lv' := [some (.inr (.inr (.inl (some 0)))), some (.inl (3))]) (st' := [.inl (0)]) (h' := av_h3) rfl ?_
    refine av_wp_ret (v := (some (.inl (0)))) rfl rfl rfl ?_
    show av_wp (some (6, f)) cd_L 1270 [some (.inr (.inr (.inr 100))), some (.inr (.inr (.inl (some 0)))), some (.inr (.inr (.inl (some 77)))), some (.inl (0))] [.inl (0)] av_h3 _
    refine av_wp_st1 lk_L_1270 (pc' := 1271) (lv' := [some (.inr (.inr (.inr 100))), some (.inr (.inr (.inl (some 0)))), some (.inr (.inr (.inl (some 77)))), some (.inl (0))]) (st' := [.inr (.inr (.inl (some 77))), .inl (0)]) (h' := av_h3) rfl rfl ?_
    refine av_wp_st1 lk_L_1271 (pc' := 1272) (lv' := [some (.inr (.inr (.inr 100))), some (.inr (.inr (.inl (some 0)))), some (.inr (.inr (.inl (some 77)))), some (.inl (0))]) (st' := [.inr (.inr (.inr 100)), .inr (.inr (.inl (some 77))), .inl (0)]) (h' := av_h3) rfl rfl ?_
    refine av_wp_st1 lk_L_1272 (pc' := 1273) (lv' := [some (.inr (.inr (.inr 100))), some (.inr (.inr (.inl (some 0)))), some (.inr (.inr (.inl (some 77)))), some (.inl (0))]) (st' := [.inl (0), .inr (.inr (.inr 100)), .inr (.inr (.inl (some 77))), .inl (0)]) (h' := av_h3) rfl rfl ?_
    refine av_wp_st1 lk_L_1273 (pc' := 1274) (lv' := [some (.inr (.inr (.inr 100))), some (.inr (.inr (.inl (some 0)))), some (.inr (.inr (.inl (some 77)))), some (.inl (0))]) (st' := [.inl (1), .inl (0), .inr (.inr (.inr 100)), .inr (.inr (.inl (some 77))), .inl (0)]) (h' := av_h3) rfl rfl ?_
    refine av_wp_st1 lk_L_1274 (pc' := 1275) (lv' := [some (.inr (.inr (.inr 100))), some (.inr (.inr (.inl (some 0)))), some (.inr (.inr (.inl (some 77)))), some (.inl (0))]) (st' := [.inl (1), .inr (.inr (.inr 100)), .inr (.inr (.inl (some 77))), .inl (0)]) (h' := av_h3) rfl rfl ?_
    refine av_wp_st1 lk_L_1275 (pc' := 1276) (lv' := [some (.inr (.inr (.inr 100))), some (.inr (.inr (.inl (some 0)))), some (.inr (.inr (.inl (some 77)))), some (.inl (0))]) (st' := [.inl (f 1), .inr (.inr (.inl (some 77))), .inl (0)]) (h' := av_h3) rfl rfl ?_
    refine av_wp_ck (av_qc (.invokevirtual 131) 217 1 0 8) 2 cd_217 [.inr (.inr (.inl (some 77))), .inl (f 1)] [.inl (0)] [some (.inr (.inr (.inl (some 77)))), some (.inl (f 1))] lk_L_1276 rfl pp_217 rfl (Nat.le_of_ble_eq_true rfl) rfl ?_
    refine av_wp_seq 1 (pc' := 1) (lv' := [some (.inr (.inr (.inl (some 77)))), some (.inl (f 1))]) (st' := [.inl (f 1)]) (h' := av_h3) rfl ?_
    rcases (show (f 1) = 3 by omega) with q7
    · rw [q7]
      refine av_wp_seq 3 (pc' := 65) (lv' := [some (.inr (.inr (.inl (some 77)))), some (.inl (3))]) (st' := [.inl (0)]) (h' := av_h3) rfl ?_
      refine av_wp_ret (v := (some (.inl (0)))) rfl rfl rfl ?_
      show av_wp (some (6, f)) cd_L 1279 [some (.inr (.inr (.inr 100))), some (.inr (.inr (.inl (some 0)))), some (.inr (.inr (.inl (some 77)))), some (.inl (0))] [.inl (0), .inl (0)] av_h3 _
      refine av_wp_st1 lk_L_1279 (pc' := 1284) (lv' := [some (.inr (.inr (.inr 100))), some (.inr (.inr (.inl (some 0)))), some (.inr (.inr (.inl (some 77)))), some (.inl (0))]) (st' := []) (h' := av_h3) rfl rfl ?_
      refine av_wp_st1 lk_L_1284 (pc' := 1287) (lv' := [some (.inr (.inr (.inr 100))), some (.inr (.inr (.inl (some 0)))), some (.inr (.inr (.inl (some 77)))), some (.inl (6))]) (st' := []) (h' := av_h3) rfl rfl ?_
      refine av_wp_st1 lk_L_1287 (pc' := 18) (lv' := [some (.inr (.inr (.inr 100))), some (.inr (.inr (.inl (some 0)))), some (.inr (.inr (.inl (some 77)))), some (.inl (6))]) (st' := []) (h' := av_h3) rfl rfl ?_
      refine av_wp_st1 lk_L_18 (pc' := 19) (lv' := [some (.inr (.inr (.inr 100))), some (.inr (.inr (.inl (some 0)))), some (.inr (.inr (.inl (some 77)))), some (.inl (6))]) (st' := [.inl (6)]) (h' := av_h3) rfl rfl ?_
      refine av_wp_st1 lk_L_19 (pc' := 20) (lv' := [some (.inr (.inr (.inr 100))), some (.inr (.inr (.inl (some 0)))), some (.inr (.inr (.inl (some 77)))), some (.inl (6))]) (st' := [.inr (.inr (.inr 100)), .inl (6)]) (h' := av_h3) rfl rfl ?_
      refine av_wp_st1 lk_L_20 (pc' := 21) (lv' := [some (.inr (.inr (.inr 100))), some (.inr (.inr (.inl (some 0)))), some (.inr (.inr (.inl (some 77)))), some (.inl (6))]) (st' := [.inl (6), .inl (6)]) (h' := av_h3) rfl rfl ?_
      refine av_wp_st1 lk_L_21 (pc' := 23) (lv' := [some (.inr (.inr (.inr 100))), some (.inr (.inr (.inl (some 0)))), some (.inr (.inr (.inl (some 77)))), some (.inl (6))]) (st' := [.inl (6), .inl (6), .inl (6)]) (h' := av_h3) rfl rfl ?_
      refine av_wp_st1 lk_L_23 (pc' := 24) (lv' := [some (.inr (.inr (.inr 100))), some (.inr (.inr (.inl (some 0)))), some (.inr (.inr (.inl (some 77)))), some (.inl (6))]) (st' := [.inl (0), .inl (6)]) (h' := av_h3) rfl rfl ?_
      refine av_wp_st1 lk_L_24 (pc' := 1290) (lv' := [some (.inr (.inr (.inr 100))), some (.inr (.inr (.inl (some 0)))), some (.inr (.inr (.inl (some 77)))), some (.inl (6))]) (st' := []) (h' := av_h3) rfl rfl ?_
      refine av_wp_st1 lk_L_1290 (pc' := 1291) (lv' := [some (.inr (.inr (.inr 100))), some (.inr (.inr (.inl (some 0)))), some (.inr (.inr (.inl (some 77)))), some (.inl (6))]) (st' := [.inl (1)]) (h' := av_h3) rfl rfl ?_
      refine av_wp_ret (v := (some (.inl (1)))) lk_L_1291 rfl rfl ?_
      exact ⟨rfl, Nat.le_of_ble_eq_true rfl, Nat.le_of_ble_eq_true rfl⟩
  · rw [q1]
    refine av_wp_seq 3 (pc' := 76) (lv' := [some (.inr (.inr (.inl (some 0)))), some (.inl (4))]) (st' := [.inr (.inr (.inl (some 3)))]) (h' := av_h3) rfl ?_
    refine av_wp_ck (av_qc (.invokevirtual 269) 76 0 0 5) 4 cd_76 [.inr (.inr (.inl (some 3)))] [] [some (.inr (.inr (.inl (some 3)))), none, none, none] rfl rfl pp_76 rfl (Nat.le_of_ble_eq_true rfl) rfl ?_
    refine av_wp_seq 9 (pc' := 40) (lv' := [some (.inr (.inr (.inl (some 3)))), some (.inl (0)), some (.inl (0)), none]) (st' := [.inl (0)]) (h' := av_h3) rfl ?_
    refine av_wp_ret (v := (some (.inl (0)))) rfl rfl rfl ?_
    show av_wp none cd_125 79 [some (.inr (.inr (.inl (some 0)))), some (.inl (4))] [.inl (0)] av_h3 _
    refine av_wp_ret (v := (some (.inl (0)))) rfl rfl rfl ?_
    show av_wp (some (6, f)) cd_L 1270 [some (.inr (.inr (.inr 100))), some (.inr (.inr (.inl (some 0)))), some (.inr (.inr (.inl (some 77)))), some (.inl (0))] [.inl (0)] av_h3 _
    refine av_wp_st1 lk_L_1270 (pc' := 1271) (lv' := [some (.inr (.inr (.inr 100))), some (.inr (.inr (.inl (some 0)))), some (.inr (.inr (.inl (some 77)))), some (.inl (0))]) (st' := [.inr (.inr (.inl (some 77))), .inl (0)]) (h' := av_h3) rfl rfl ?_
    refine av_wp_st1 lk_L_1271 (pc' := 1272) (lv' := [some (.inr (.inr (.inr 100))), some (.inr (.inr (.inl (some 0)))), some (.inr (.inr (.inl (some 77)))), some (.inl (0))]) (st' := [.inr (.inr (.inr 100)), .inr (.inr (.inl (some 77))), .inl (0)]) (h' := av_h3) rfl rfl ?_
    refine av_wp_st1 lk_L_1272 (pc' := 1273) (lv' := [some (.inr (.inr (.inr 100))), some (.inr (.inr (.inl (some 0)))), some (.inr (.inr (.inl (some 77)))), some (.inl (0))]) (st' := [.inl (0), .inr (.inr (.inr 100)), .inr (.inr (.inl (some 77))), .inl (0)]) (h' := av_h3) rfl rfl ?_
    refine av_wp_st1 lk_L_1273 (pc' := 1274) (lv' := [some (.inr (.inr (.inr 100))), some (.inr (.inr (.inl (some 0)))), some (.inr (.inr (.inl (some 77)))), some (.inl (0))]) (st' := [.inl (1), .inl (0), .inr (.inr (.inr 100)), .inr (.inr (.inl (some 77))), .inl (0)]) (h' := av_h3) rfl rfl ?_
    refine av_wp_st1 lk_L_1274 (pc' := 1275) (lv' := [some (.inr (.inr (.inr 100))), some (.inr (.inr (.inl (some 0)))), some (.inr (.inr (.inl (some 77)))), some (.inl (0))]) (st' := [.inl (1), .inr (.inr (.inr 100)), .inr (.inr (.inl (some 77))), .inl (0)]) (h' := av_h3) rfl rfl ?_
    refine av_wp_st1 lk_L_1275 (pc' := 1276) (lv' := [some (.inr (.inr (.inr 100))), some (.inr (.inr (.inl (some 0)))), some (.inr (.inr (.inl (some 77)))), some (.inl (0))]) (st' := [.inl (f 1), .inr (.inr (.inl (some 77))), .inl (0)]) (h' := av_h3) rfl rfl ?_
    refine av_wp_ck (av_qc (.invokevirtual 131) 217 1 0 8) 2 cd_217 [.inr (.inr (.inl (some 77))), .inl (f 1)] [.inl (0)] [some (.inr (.inr (.inl (some 77)))), some (.inl (f 1))] lk_L_1276 rfl pp_217 rfl (Nat.le_of_ble_eq_true rfl) rfl ?_
    refine av_wp_seq 1 (pc' := 1) (lv' := [some (.inr (.inr (.inl (some 77)))), some (.inl (f 1))]) (st' := [.inl (f 1)]) (h' := av_h3) rfl ?_
    rcases (show (f 1) = 4 by omega) with q8
    · rw [q8]
      refine av_wp_seq 2 (pc' := 67) (lv' := [some (.inr (.inr (.inl (some 77)))), some (.inl (4))]) (st' := [.inr (.inr (.inl (some 77)))]) (h' := av_h3) rfl ?_
      refine av_wp_ck (av_qc (.invokevirtual 488) 216 0 0 8) 3 cd_216 [.inr (.inr (.inl (some 77)))] [] [some (.inr (.inr (.inl (some 77)))), none, none] rfl rfl pp_216 rfl (Nat.le_of_ble_eq_true rfl) rfl ?_
      refine av_wp_seq 11 (pc' := 30) (lv' := [some (.inr (.inr (.inl (some 77)))), some (.inl (0)), some (.inl (0))]) (st' := [.inl (0)]) (h' := av_h3) rfl ?_
      refine av_wp_ret (v := (some (.inl (0)))) rfl rfl rfl ?_
      show av_wp none cd_217 70 [some (.inr (.inr (.inl (some 77)))), some (.inl (4))] [.inl (0)] av_h3 _
      refine av_wp_ret (v := (some (.inl (0)))) rfl rfl rfl ?_
      show av_wp (some (6, f)) cd_L 1279 [some (.inr (.inr (.inr 100))), some (.inr (.inr (.inl (some 0)))), some (.inr (.inr (.inl (some 77)))), some (.inl (0))] [.inl (0), .inl (0)] av_h3 _
      refine av_wp_st1 lk_L_1279 (pc' := 1284) (lv' := [some (.inr (.inr (.inr 100))), some (.inr (.inr (.inl (some 0)))), some (.inr (.inr (.inl (some 77)))), some (.inl (0))]) (st' := []) (h' := av_h3) rfl rfl ?_
      refine av_wp_st1 lk_L_1284 (pc' := 1287) (lv' := [some (.inr (.inr (.inr 100))), some (.inr (.inr (.inl (some 0)))), some (.inr (.inr (.inl (some 77)))), some (.inl (6))]) (st' := []) (h' := av_h3) rfl rfl ?_
      refine av_wp_st1 lk_L_1287 (pc' := 18) (lv' := [some (.inr (.inr (.inr 100))), some (.inr (.inr (.inl (some 0)))), some (.inr (.inr (.inl (some 77)))), some (.inl (6))]) (st' := []) (h' := av_h3) rfl rfl ?_
      refine av_wp_st1 lk_L_18 (pc' := 19) (lv' := [some (.inr (.inr (.inr 100))), some (.inr (.inr (.inl (some 0)))), some (.inr (.inr (.inl (some 77)))), some (.inl (6))]) (st' := [.inl (6)]) (h' := av_h3) rfl rfl ?_
      refine av_wp_st1 lk_L_19 (pc' := 20) (lv' := [some (.inr (.inr (.inr 100))), some (.inr (.inr (.inl (some 0)))), some (.inr (.inr (.inl (some 77)))), some (.inl (6))]) (st' := [.inr (.inr (.inr 100)), .inl (6)]) (h' := av_h3) rfl rfl ?_
      refine av_wp_st1 lk_L_20 (pc' := 21) (lv' := [some (.inr (.inr (.inr 100))), some (.inr (.inr (.inl (some 0)))), some (.inr (.inr (.inl (some 77)))), some (.inl (6))]) (st' := [.inl (6), .inl (6)]) (h' := av_h3) rfl rfl ?_
      refine av_wp_st1 lk_L_21 (pc' := 23) (lv' := [some (.inr (.inr (.inr 100))), some (.inr (.inr (.inl (some 0)))), some (.inr (.inr (.inl (some 77)))), some (.inl (6))]) (st' := [.inl (6), .inl (6), .inl (6)]) (h' := av_h3) rfl rfl ?_
      refine av_wp_st1 lk_L_23 (pc' := 24) (lv' := [some (.inr (.inr (.inr 100))), some (.inr (.inr (.inl (some 0)))), some (.inr (.inr (.inl (some 77)))), some (.inl (6))]) (st' := [.inl (0), .inl (6)]) (h' := av_h3) rfl rfl ?_
      refine av_wp_st1 lk_L_24 (pc' := 1290) (lv' := [some (.inr (.inr (.inr 100))), some (.inr (.inr (.inl (some 0)))), some (.inr (.inr (.inl (some 77)))), some (.inl (6))]) (st' := []) (h' := av_h3) rfl rfl ?_
      refine av_wp_st1 lk_L_1290 (pc' := 1291) (lv' := [some (.inr (.inr (.inr 100))), some (.inr (.inr (.inl (some 0)))), some (.inr (.inr (.inl (some 77)))), some (.inl (6))]) (st' := [.inl (1)]) (h' := av_h3) rfl rfl ?_
      refine av_wp_ret (v := (some (.inl (1)))) lk_L_1291 rfl rfl ?_
      exact ⟨rfl, Nat.le_of_ble_eq_true rfl, Nat.le_of_ble_eq_true rfl⟩
  · rw [q1]
    refine av_wp_seq 3 (pc' := 84) (lv' := [some (.inr (.inr (.inl (some 0)))), some (.inl (5))]) (st' := [.inl (0)]) (h' := av_h3) rfl ?_
    refine av_wp_ret (v := (some (.inl (0)))) rfl rfl rfl ?_
    show av_wp (some (6, f)) cd_L 1270 [some (.inr (.inr (.inr 100))), some (.inr (.inr (.inl (some 0)))), some (.inr (.inr (.inl (some 77)))), some (.inl (0))] [.inl (0)] av_h3 _
    refine av_wp_st1 lk_L_1270 (pc' := 1271) (lv' := [some (.inr (.inr (.inr 100))), some (.inr (.inr (.inl (some 0)))), some (.inr (.inr (.inl (some 77)))), some (.inl (0))]) (st' := [.inr (.inr (.inl (some 77))), .inl (0)]) (h' := av_h3) rfl rfl ?_
    refine av_wp_st1 lk_L_1271 (pc' := 1272) (lv' := [some (.inr (.inr (.inr 100))), some (.inr (.inr (.inl (some 0)))), some (.inr (.inr (.inl (some 77)))), some (.inl (0))]) (st' := [.inr (.inr (.inr 100)), .inr (.inr (.inl (some 77))), .inl (0)]) (h' := av_h3) rfl rfl ?_
    refine av_wp_st1 lk_L_1272 (pc' := 1273) (lv' := [some (.inr (.inr (.inr 100))), some (.inr (.inr (.inl (some 0)))), some (.inr (.inr (.inl (some 77)))), some (.inl (0))]) (st' := [.inl (0), .inr (.inr (.inr 100)), .inr (.inr (.inl (some 77))), .inl (0)]) (h' := av_h3) rfl rfl ?_
    refine av_wp_st1 lk_L_1273 (pc' := 1274) (lv' := [some (.inr (.inr (.inr 100))), some (.inr (.inr (.inl (some 0)))), some (.inr (.inr (.inl (some 77)))), some (.inl (0))]) (st' := [.inl (1), .inl (0), .inr (.inr (.inr 100)), .inr (.inr (.inl (some 77))), .inl (0)]) (h' := av_h3) rfl rfl ?_
    refine av_wp_st1 lk_L_1274 (pc' := 1275) (lv' := [some (.inr (.inr (.inr 100))), some (.inr (.inr (.inl (some 0)))), some (.inr (.inr (.inl (some 77)))), some (.inl (0))]) (st' := [.inl (1), .inr (.inr (.inr 100)), .inr (.inr (.inl (some 77))), .inl (0)]) (h' := av_h3) rfl rfl ?_
    refine av_wp_st1 lk_L_1275 (pc' := 1276) (lv' := [some (.inr (.inr (.inr 100))), some (.inr (.inr (.inl (some 0)))), some (.inr (.inr (.inl (some 77)))), some (.inl (0))]) (st' := [.inl (f 1), .inr (.inr (.inl (some 77))), .inl (0)]) (h' := av_h3) rfl rfl ?_
    refine av_wp_ck (av_qc (.invokevirtual 131) 217 1 0 8) 2 cd_217 [.inr (.inr (.inl (some 77))), .inl (f 1)] [.inl (0)] [some (.inr (.inr (.inl (some 77)))), some (.inl (f 1))] lk_L_1276 rfl pp_217 rfl (Nat.le_of_ble_eq_true rfl) rfl ?_
    refine av_wp_seq 1 (pc' := 1) (lv' := [some (.inr (.inr (.inl (some 77)))), some (.inl (f 1))]) (st' := [.inl (f 1)]) (h' := av_h3) rfl ?_
    rcases (show (f 1) = 5 by omega) with q9
    · rw [q9]
      refine av_wp_seq 3 (pc' := 75) (lv' := [some (.inr (.inr (.inl (some 77)))), some (.inl (5))]) (st' := [.inl (0)]) (h' := av_h3) rfl ?_
      refine av_wp_ret (v := (some (.inl (0)))) rfl rfl rfl ?_
      show av_wp (some (6, f)) cd_L 1279 [some (.inr (.inr (.inr 100))), some (.inr (.inr (.inl (some 0)))), some (.inr (.inr (.inl (some 77)))), some (.inl (0))] [.inl (0), .inl (0)] av_h3 _
      refine av_wp_st1 lk_L_1279 (pc' := 1284) (lv' := [some (.inr (.inr (.inr 100))), some (.inr (.inr (.inl (some 0)))), some (.inr (.inr (.inl (some 77)))), some (.inl (0))]) (st' := []) (h' := av_h3) rfl rfl ?_
      refine av_wp_st1 lk_L_1284 (pc' := 1287) (lv' := [some (.inr (.inr (.inr 100))), some (.inr (.inr (.inl (some 0)))), some (.inr (.inr (.inl (some 77)))), some (.inl (6))]) (st' := []) (h' := av_h3) rfl rfl ?_
      refine av_wp_st1 lk_L_1287 (pc' := 18) (lv' := [some (.inr (.inr (.inr 100))), some (.inr (.inr (.inl (some 0)))), some (.inr (.inr (.inl (some 77)))), some (.inl (6))]) (st' := []) (h' := av_h3) rfl rfl ?_
      refine av_wp_st1 lk_L_18 (pc' := 19) (lv' := [some (.inr (.inr (.inr 100))), some (.inr (.inr (.inl (some 0)))), some (.inr (.inr (.inl (some 77)))), some (.inl (6))]) (st' := [.inl (6)]) (h' := av_h3) rfl rfl ?_
      refine av_wp_st1 lk_L_19 (pc' := 20) (lv' := [some (.inr (.inr (.inr 100))), some (.inr (.inr (.inl (some 0)))), some (.inr (.inr (.inl (some 77)))), some (.inl (6))]) (st' := [.inr (.inr (.inr 100)), .inl (6)]) (h' := av_h3) rfl rfl ?_
      refine av_wp_st1 lk_L_20 (pc' := 21) (lv' := [some (.inr (.inr (.inr 100))), some (.inr (.inr (.inl (some 0)))), some (.inr (.inr (.inl (some 77)))), some (.inl (6))]) (st' := [.inl (6), .inl (6)]) (h' := av_h3) rfl rfl ?_
      refine av_wp_st1 lk_L_21 (pc' := 23) (lv' := [some (.inr (.inr (.inr 100))), some (.inr (.inr (.inl (some 0)))), some (.inr (.inr (.inl (some 77)))), some (.inl (6))]) (st' := [.inl (6), .inl (6), .inl (6)]) (h' := av_h3) rfl rfl ?_
      refine av_wp_st1 lk_L_23 (pc' := 24) (lv' := [some (.inr (.inr (.inr 100))), some (.inr (.inr (.inl (some 0)))), some (.inr (.inr (.inl (some 77)))), some (.inl (6))]) (st' := [.inl (0), .inl (6)]) (h' := av_h3) rfl rfl ?_
      refine av_wp_st1 lk_L_24 (pc' := 1290) (lv' := [some (.inr (.inr (.inr 100))), some (.inr (.inr (.inl (some 0)))), some (.inr (.inr (.inl (some 77)))), some (.inl (6))]) (st' := []) (h' := av_h3) rfl rfl ?_
      refine av_wp_st1 lk_L_1290 (pc' := 1291) (lv' := [some (.inr (.inr (.inr 100))), some (.inr (.inr (.inl (some 0)))), some (.inr (.inr (.inl (some 77)))), some (.inl (6))]) (st' := [.inl (1)]) (h' := av_h3) rfl rfl ?_
      refine av_wp_ret (v := (some (.inl (1)))) lk_L_1291 rfl rfl ?_
      exact ⟨rfl, Nat.le_of_ble_eq_true rfl, Nat.le_of_ble_eq_true rfl⟩
