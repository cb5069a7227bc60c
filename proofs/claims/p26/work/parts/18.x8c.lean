set_option maxHeartbeats 4000000 in
set_option maxRecDepth 100000 in
theorem kX4_init (l : Launch) (κ : KK) (a0 : Nat) : CMv l yX4_init cX4_init 1 none 0 2 12 κ [.ref a0] [(a0, .inr (3, [.null, .null, .int (nI 0)]))] (fun (vw_ : va_W) => ∃ (a1 : Nat), ∃ (a2 : Nat), vw_ = [(a0, .inr (3, [.ref a1, .ref a2, .int (nI 0)])), (a1, .inl (κ.2 0, 6, .inl (nA (fun _ => 0)))), (a2, .inl (κ.2 0, 6, .inl (nA (fun _ => 0))))]) := by
  refine cmv_of RX4 rfl (by decide) (Nat.le_of_ble_eq_true rfl) ?_
  intro p e s m below meth c A C hAe hA hini
  refine g_lv (lv' := [(0, .ref a0)]) [0] rfl ?_
  refine g_aload_n (pc' := 1) C 0 dX4_init_0 rfl rfl rfl ?_
  refine g_objInit (pc' := 4) C oi_RX4_3 wd_oi2 wd_oi3 (Nat.le_of_ble_eq_true rfl) (Nat.le_of_ble_eq_true rfl) dX4_init_1 rfl ?_
  refine g_aload_n (pc' := 5) C 0 dX4_init_4 rfl rfl rfl ?_
  refine g_bipush (pc' := 7) (v := nI 6) C dX4_init_5 (by decide) rfl ?_
  refine g_newI (pc' := 9) (z := 6) C hA wd_arr_int (by decide) (Nat.le_of_ble_eq_true rfl) (Nat.le_of_ble_eq_true rfl) dX4_init_7 rfl (fun q_7_1 => ?_)
  show G p l e (rmv 0 2 12) s m ([.ref a0] : List Value).toArray below meth c κ 1 (JM A s) [(a0, .inr (3, [.null, .null, .int (nI 0)])), (q_7_1, .inl (κ.2 0, 6, .inl (nA (fun _ => 0))))] 1 6 (MQ below (QMv κ [(a0, .inr (3, [.null, .null, .int (nI 0)]))] s.heap.size (fun (vw_ : va_W) => ∃ (a1 : Nat), ∃ (a2 : Nat), vw_ = [(a0, .inr (3, [.ref a1, .ref a2, .int (nI 0)])), (a1, .inl (κ.2 0, 6, .inl (nA (fun _ => 0)))), (a2, .inl (κ.2 0, 6, .inl (nA (fun _ => 0))))])) ([.ref a0] : List Value).toArray s 2 12 A) 9 [(0, .ref a0)] [.ref q_7_1, .ref a0]
  refine g_putF (pc' := 12) (ws' := [(a0, .inr (3, [.ref q_7_1, .null, .int (nI 0)])), (q_7_1, .inl (κ.2 0, 6, .inl (nA (fun _ => 0))))]) C (hini rfl) fp_RX4_9_3 0 rfl rfl rfl (Nat.le_of_ble_eq_true rfl) rfl dX4_init_9 rfl ?_
  refine g_aload_n (pc' := 13) C 0 dX4_init_12 rfl rfl rfl ?_
  refine g_bipush (pc' := 15) (v := nI 6) C dX4_init_13 (by decide) rfl ?_
  refine g_newI (pc' := 17) (z := 6) C hA wd_arr_int (by decide) (Nat.le_of_ble_eq_true rfl) (Nat.le_of_ble_eq_true rfl) dX4_init_15 rfl (fun q_15_2 => ?_)
  show G p l e (rmv 0 2 12) s m ([.ref a0] : List Value).toArray below meth c κ 1 (JM A s) [(a0, .inr (3, [.ref q_7_1, .null, .int (nI 0)])), (q_7_1, .inl (κ.2 0, 6, .inl (nA (fun _ => 0)))), (q_15_2, .inl (κ.2 0, 6, .inl (nA (fun _ => 0))))] 2 12 (MQ below (QMv κ [(a0, .inr (3, [.null, .null, .int (nI 0)]))] s.heap.size (fun (vw_ : va_W) => ∃ (a1 : Nat), ∃ (a2 : Nat), vw_ = [(a0, .inr (3, [.ref a1, .ref a2, .int (nI 0)])), (a1, .inl (κ.2 0, 6, .inl (nA (fun _ => 0)))), (a2, .inl (κ.2 0, 6, .inl (nA (fun _ => 0))))])) ([.ref a0] : List Value).toArray s 2 12 A) 17 [(0, .ref a0)] [.ref q_15_2, .ref a0]
  refine g_putF (pc' := 20) (ws' := [(a0, .inr (3, [.ref q_7_1, .ref q_15_2, .int (nI 0)])), (q_7_1, .inl (κ.2 0, 6, .inl (nA (fun _ => 0)))), (q_15_2, .inl (κ.2 0, 6, .inl (nA (fun _ => 0))))]) C (hini rfl) fp_RX4_15_3 0 rfl rfl rfl (Nat.le_of_ble_eq_true rfl) rfl dX4_init_17 rfl ?_
  exact g_retMv C hAe rfl (Nat.le_of_ble_eq_true rfl) (Nat.le_of_ble_eq_true rfl) (⟨_, _, rfl⟩) dX4_init_20

set_option maxHeartbeats 4000000 in
set_option maxRecDepth 100000 in
theorem kX5_init (l : Launch) (κ : KK) (b0 : Nat) : CMv l yX5_init cX5_init 1 none 0 1 6 κ [.ref b0] [(b0, .inr (4, [.null, .int (nI 0)]))] (fun (vw_ : va_W) => ∃ (b1 : Nat), vw_ = [(b0, .inr (4, [.ref b1, .int (nI 0)])), (b1, .inl (κ.2 0, 6, .inl (nA (fun _ => 0))))]) := by
  refine cmv_of RX5 rfl (by decide) (Nat.le_of_ble_eq_true rfl) ?_
  intro p e s m below meth c A C hAe hA hini
  refine g_lv (lv' := [(0, .ref b0)]) [0] rfl ?_
  refine g_aload_n (pc' := 1) C 0 dX5_init_0 rfl rfl rfl ?_
  refine g_objInit (pc' := 4) C oi_RX5_3 wd_oi2 wd_oi3 (Nat.le_of_ble_eq_true rfl) (Nat.le_of_ble_eq_true rfl) dX5_init_1 rfl ?_
  refine g_aload_n (pc' := 5) C 0 dX5_init_4 rfl rfl rfl ?_
  refine g_bipush (pc' := 7) (v := nI 6) C dX5_init_5 (by decide) rfl ?_
  refine g_newI (pc' := 9) (z := 6) C hA wd_arr_int (by decide) (Nat.le_of_ble_eq_true rfl) (Nat.le_of_ble_eq_true rfl) dX5_init_7 rfl (fun q_7_1 => ?_)
  show G p l e (rmv 0 1 6) s m ([.ref b0] : List Value).toArray below meth c κ 1 (JM A s) [(b0, .inr (4, [.null, .int (nI 0)])), (q_7_1, .inl (κ.2 0, 6, .inl (nA (fun _ => 0))))] 1 6 (MQ below (QMv κ [(b0, .inr (4, [.null, .int (nI 0)]))] s.heap.size (fun (vw_ : va_W) => ∃ (b1 : Nat), vw_ = [(b0, .inr (4, [.ref b1, .int (nI 0)])), (b1, .inl (κ.2 0, 6, .inl (nA (fun _ => 0))))])) ([.ref b0] : List Value).toArray s 1 6 A) 9 [(0, .ref b0)] [.ref q_7_1, .ref b0]
  refine g_putF (pc' := 12) (ws' := [(b0, .inr (4, [.ref q_7_1, .int (nI 0)])), (q_7_1, .inl (κ.2 0, 6, .inl (nA (fun _ => 0))))]) C (hini rfl) fp_RX5_9_4 0 rfl rfl rfl (Nat.le_of_ble_eq_true rfl) rfl dX5_init_9 rfl ?_
  exact g_retMv C hAe rfl (Nat.le_of_ble_eq_true rfl) (Nat.le_of_ble_eq_true rfl) (⟨_, rfl⟩) dX5_init_12

set_option maxHeartbeats 4000000 in
set_option maxRecDepth 100000 in
theorem kX7_init (l : Launch) (κ : KK) (q0 : Nat) : CMv l yX7_init cX7_init 1 none 0 3 360 κ [.ref q0] [(q0, .inr (6, [.null, .null, .null, .int (nI 0)]))] (fun (vw_ : va_W) => ∃ (q1 : Nat), ∃ (q2 : Nat), ∃ (q3 : Nat), vw_ = [(q0, .inr (6, [.ref q1, .ref q2, .ref q3, .int (nI 0)])), (q1, .inl (κ.2 0, 120, .inl (nA (fun _ => 0)))), (q2, .inl (κ.2 0, 120, .inl (nA (fun _ => 0)))), (q3, .inl (κ.2 0, 120, .inl (nA (fun _ => 0))))]) := by
  refine cmv_of RX7 rfl (by decide) (Nat.le_of_ble_eq_true rfl) ?_
  intro p e s m below meth c A C hAe hA hini
  refine g_lv (lv' := [(0, .ref q0)]) [0] rfl ?_
  refine g_aload_n (pc' := 1) C 0 dX7_init_0 rfl rfl rfl ?_
  refine g_objInit (pc' := 4) C oi_RX7_3 wd_oi2 wd_oi3 (Nat.le_of_ble_eq_true rfl) (Nat.le_of_ble_eq_true rfl) dX7_init_1 rfl ?_
  refine g_aload_n (pc' := 5) C 0 dX7_init_4 rfl rfl rfl ?_
  refine g_bipush (pc' := 7) (v := nI 120) C dX7_init_5 (by decide) rfl ?_
  refine g_newI (pc' := 9) (z := 120) C hA wd_arr_int (by decide) (Nat.le_of_ble_eq_true rfl) (Nat.le_of_ble_eq_true rfl) dX7_init_7 rfl (fun q_7_1 => ?_)
  show G p l e (rmv 0 3 360) s m ([.ref q0] : List Value).toArray below meth c κ 1 (JM A s) [(q0, .inr (6, [.null, .null, .null, .int (nI 0)])), (q_7_1, .inl (κ.2 0, 120, .inl (nA (fun _ => 0))))] 1 120 (MQ below (QMv κ [(q0, .inr (6, [.null, .null, .null, .int (nI 0)]))] s.heap.size (fun (vw_ : va_W) => ∃ (q1 : Nat), ∃ (q2 : Nat), ∃ (q3 : Nat), vw_ = [(q0, .inr (6, [.ref q1, .ref q2, .ref q3, .int (nI 0)])), (q1, .inl (κ.2 0, 120, .inl (nA (fun _ => 0)))), (q2, .inl (κ.2 0, 120, .inl (nA (fun _ => 0)))), (q3, .inl (κ.2 0, 120, .inl (nA (fun _ => 0))))])) ([.ref q0] : List Value).toArray s 3 360 A) 9 [(0, .ref q0)] [.ref q_7_1, .ref q0]
  refine g_putF (pc' := 12) (ws' := [(q0, .inr (6, [.ref q_7_1, .null, .null, .int (nI 0)])), (q_7_1, .inl (κ.2 0, 120, .inl (nA (fun _ => 0))))]) C (hini rfl) fp_RX7_9_6 0 rfl rfl rfl (Nat.le_of_ble_eq_true rfl) rfl dX7_init_9 rfl ?_
  refine g_aload_n (pc' := 13) C 0 dX7_init_12 rfl rfl rfl ?_
  refine g_bipush (pc' := 15) (v := nI 120) C dX7_init_13 (by decide) rfl ?_
  refine g_newI (pc' := 17) (z := 120) C hA wd_arr_int (by decide) (Nat.le_of_ble_eq_true rfl) (Nat.le_of_ble_eq_true rfl) dX7_init_15 rfl (fun q_15_2 => ?_)
  show G p l e (rmv 0 3 360) s m ([.ref q0] : List Value).toArray below meth c κ 1 (JM A s) [(q0, .inr (6, [.ref q_7_1, .null, .null, .int (nI 0)])), (q_7_1, .inl (κ.2 0, 120, .inl (nA (fun _ => 0)))), (q_15_2, .inl (κ.2 0, 120, .inl (nA (fun _ => 0))))] 2 240 (MQ below (QMv κ [(q0, .inr (6, [.null, .null, .null, .int (nI 0)]))] s.heap.size (fun (vw_ : va_W) => ∃ (q1 : Nat), ∃ (q2 : Nat), ∃ (q3 : Nat), vw_ = [(q0, .inr (6, [.ref q1, .ref q2, .ref q3, .int (nI 0)])), (q1, .inl (κ.2 0, 120, .inl (nA (fun _ => 0)))), (q2, .inl (κ.2 0, 120, .inl (nA (fun _ => 0)))), (q3, .inl (κ.2 0, 120, .inl (nA (fun _ => 0))))])) ([.ref q0] : List Value).toArray s 3 360 A) 17 [(0, .ref q0)] [.ref q_15_2, .ref q0]
  refine g_putF (pc' := 20) (ws' := [(q0, .inr (6, [.ref q_7_1, .ref q_15_2, .null, .int (nI 0)])), (q_7_1, .inl (κ.2 0, 120, .inl (nA (fun _ => 0)))), (q_15_2, .inl (κ.2 0, 120, .inl (nA (fun _ => 0))))]) C (hini rfl) fp_RX7_15_6 0 rfl rfl rfl (Nat.le_of_ble_eq_true rfl) rfl dX7_init_17 rfl ?_
  refine g_aload_n (pc' := 21) C 0 dX7_init_20 rfl rfl rfl ?_
  refine g_bipush (pc' := 23) (v := nI 120) C dX7_init_21 (by decide) rfl ?_
  refine g_newI (pc' := 25) (z := 120) C hA wd_arr_int (by decide) (Nat.le_of_ble_eq_true rfl) (Nat.le_of_ble_eq_true rfl) dX7_init_23 rfl (fun q_23_3 => ?_)
  show G p l e (rmv 0 3 360) s m ([.ref q0] : List Value).toArray below meth c κ 1 (JM A s) [(q0, .inr (6, [.ref q_7_1, .ref q_15_2, .null, .int (nI 0)])), (q_7_1, .inl (κ.2 0, 120, .inl (nA (fun _ => 0)))), (q_15_2, .inl (κ.2 0, 120, .inl (nA (fun _ => 0)))), (q_23_3, .inl (κ.2 0, 120, .inl (nA (fun _ => 0))))] 3 360 (MQ below (QMv κ [(q0, .inr (6, [.null, .null, .null, .int (nI 0)]))] s.heap.size (fun (vw_ : va_W) => ∃ (q1 : Nat), ∃ (q2 : Nat), ∃ (q3 : Nat), vw_ = [(q0, .inr (6, [.ref q1, .ref q2, .ref q3, .int (nI 0)])), (q1, .inl (κ.2 0, 120, .inl (nA (fun _ => 0)))), (q2, .inl (κ.2 0, 120, .inl (nA (fun _ => 0)))), (q3, .inl (κ.2 0, 120, .inl (nA (fun _ => 0))))])) ([.ref q0] : List Value).toArray s 3 360 A) 25 [(0, .ref q0)] [.ref q_23_3, .ref q0]
  refine g_putF (pc' := 28) (ws' := [(q0, .inr (6, [.ref q_7_1, .ref q_15_2, .ref q_23_3, .int (nI 0)])), (q_7_1, .inl (κ.2 0, 120, .inl (nA (fun _ => 0)))), (q_15_2, .inl (κ.2 0, 120, .inl (nA (fun _ => 0)))), (q_23_3, .inl (κ.2 0, 120, .inl (nA (fun _ => 0))))]) C (hini rfl) fp_RX7_18_6 0 rfl rfl rfl (Nat.le_of_ble_eq_true rfl) rfl dX7_init_25 rfl ?_
  exact g_retMv C hAe rfl (Nat.le_of_ble_eq_true rfl) (Nat.le_of_ble_eq_true rfl) (⟨_, _, _, rfl⟩) dX7_init_28

set_option maxHeartbeats 4000000 in
set_option maxRecDepth 100000 in
theorem kX1_init (l : Launch) (κ : KK) (c0 : Nat) : CMv l yX1_init cX1_init 1 none 0 9 461 κ [.ref c0] [(c0, .inr (1, [.null, .null]))] (fun (vw_ : va_W) => ∃ (c1 : Nat), ∃ (c2 : Nat), ∃ (cr : Nat → Nat), vw_ = [(c0, .inr (1, [.ref c1, .ref c2])), (c1, .inl (κ.2 3, 7, .inr (.inr (.inr (.inr (g7 cr)))))), ((cr 0), .inl (κ.2 0, 64, .inl (nA ((fun _ _ => 0 : Nat → Nat → Nat) 0)))), ((cr 1), .inl (κ.2 0, 64, .inl (nA ((fun _ _ => 0 : Nat → Nat → Nat) 1)))), ((cr 2), .inl (κ.2 0, 64, .inl (nA ((fun _ _ => 0 : Nat → Nat → Nat) 2)))), ((cr 3), .inl (κ.2 0, 64, .inl (nA ((fun _ _ => 0 : Nat → Nat → Nat) 3)))), ((cr 4), .inl (κ.2 0, 64, .inl (nA ((fun _ _ => 0 : Nat → Nat → Nat) 4)))), ((cr 5), .inl (κ.2 0, 64, .inl (nA ((fun _ _ => 0 : Nat → Nat → Nat) 5)))), ((cr 6), .inl (κ.2 0, 64, .inl (nA ((fun _ _ => 0 : Nat → Nat → Nat) 6)))), (c2, .inl (κ.2 0, 6, .inl (oA (fun _ => some 0))))]) := by
  refine cmv_of RX1 rfl (by decide) (Nat.le_of_ble_eq_true rfl) ?_
  intro p e s m below meth c A C hAe hA hini
  refine g_lv (lv' := [(0, .ref c0)]) [0] rfl ?_
  refine g_aload_n (pc' := 1) C 0 dX1_init_0 rfl rfl rfl ?_
  refine g_objInit (pc' := 4) C oi_RX1_3 wd_oi2 wd_oi3 (Nat.le_of_ble_eq_true rfl) (Nat.le_of_ble_eq_true rfl) dX1_init_1 rfl ?_
  refine g_aload_n (pc' := 5) C 0 dX1_init_4 rfl rfl rfl ?_
  refine g_bipush (pc' := 7) (v := nI 7) C dX1_init_5 (by decide) rfl ?_
  refine g_bipush (pc' := 9) (v := nI 64) C dX1_init_7 (by decide) rfl ?_
  refine g_mna (pc' := 13) (z := 7) (t := 64) C hA cl_RX1_11 wd_arr_int (by decide) (by decide) (Nat.le_of_ble_eq_true rfl) (Nat.le_of_ble_eq_true rfl) dX1_init_9 rfl (fun q_9_1 r_9_1 => ?_)
  show G p l e (rmv 0 9 461) s m ([.ref c0] : List Value).toArray below meth c κ 1 (JM A s) [(c0, .inr (1, [.null, .null])), (q_9_1, .inl (κ.2 3, 7, .inr (.inr (.inr (.inr (g7 r_9_1)))))), ((r_9_1 0), .inl (κ.2 0, 64, .inl (nA ((fun _ _ => 0 : Nat → Nat → Nat) 0)))), ((r_9_1 1), .inl (κ.2 0, 64, .inl (nA ((fun _ _ => 0 : Nat → Nat → Nat) 1)))), ((r_9_1 2), .inl (κ.2 0, 64, .inl (nA ((fun _ _ => 0 : Nat → Nat → Nat) 2)))), ((r_9_1 3), .inl (κ.2 0, 64, .inl (nA ((fun _ _ => 0 : Nat → Nat → Nat) 3)))), ((r_9_1 4), .inl (κ.2 0, 64, .inl (nA ((fun _ _ => 0 : Nat → Nat → Nat) 4)))), ((r_9_1 5), .inl (κ.2 0, 64, .inl (nA ((fun _ _ => 0 : Nat → Nat → Nat) 5)))), ((r_9_1 6), .inl (κ.2 0, 64, .inl (nA ((fun _ _ => 0 : Nat → Nat → Nat) 6))))] 8 455 (MQ below (QMv κ [(c0, .inr (1, [.null, .null]))] s.heap.size (fun (vw_ : va_W) => ∃ (c1 : Nat), ∃ (c2 : Nat), ∃ (cr : Nat → Nat), vw_ = [(c0, .inr (1, [.ref c1, .ref c2])), (c1, .inl (κ.2 3, 7, .inr (.inr (.inr (.inr (g7 cr)))))), ((cr 0), .inl (κ.2 0, 64, .inl (nA ((fun _ _ => 0 : Nat → Nat → Nat) 0)))), ((cr 1), .inl (κ.2 0, 64, .inl (nA ((fun _ _ => 0 : Nat → Nat → Nat) 1)))), ((cr 2), .inl (κ.2 0, 64, .inl (nA ((fun _ _ => 0 : Nat → Nat → Nat) 2)))), ((cr 3), .inl (κ.2 0, 64, .inl (nA ((fun _ _ => 0 : Nat → Nat → Nat) 3)))), ((cr 4), .inl (κ.2 0, 64, .inl (nA ((fun _ _ => 0 : Nat → Nat → Nat) 4)))), ((cr 5), .inl (κ.2 0, 64, .inl (nA ((fun _ _ => 0 : Nat → Nat → Nat) 5)))), ((cr 6), .inl (κ.2 0, 64, .inl (nA ((fun _ _ => 0 : Nat → Nat → Nat) 6)))), (c2, .inl (κ.2 0, 6, .inl (oA (fun _ => some 0))))])) ([.ref c0] : List Value).toArray s 9 461 A) 13 [(0, .ref c0)] [.ref q_9_1, .ref c0]
  refine g_putF (pc' := 16) (ws' := [(c0, .inr (1, [.ref q_9_1, .null])), (q_9_1, .inl (κ.2 3, 7, .inr (.inr (.inr (.inr (g7 r_9_1)))))), ((r_9_1 0), .inl (κ.2 0, 64, .inl (nA ((fun _ _ => 0 : Nat → Nat → Nat) 0)))), ((r_9_1 1), .inl (κ.2 0, 64, .inl (nA ((fun _ _ => 0 : Nat → Nat → Nat) 1)))), ((r_9_1 2), .inl (κ.2 0, 64, .inl (nA ((fun _ _ => 0 : Nat → Nat → Nat) 2)))), ((r_9_1 3), .inl (κ.2 0, 64, .inl (nA ((fun _ _ => 0 : Nat → Nat → Nat) 3)))), ((r_9_1 4), .inl (κ.2 0, 64, .inl (nA ((fun _ _ => 0 : Nat → Nat → Nat) 4)))), ((r_9_1 5), .inl (κ.2 0, 64, .inl (nA ((fun _ _ => 0 : Nat → Nat → Nat) 5)))), ((r_9_1 6), .inl (κ.2 0, 64, .inl (nA ((fun _ _ => 0 : Nat → Nat → Nat) 6))))]) C (hini rfl) fp_RX1_13_1 0 rfl rfl rfl (Nat.le_of_ble_eq_true rfl) rfl dX1_init_13 rfl ?_
  refine g_aload_n (pc' := 17) C 0 dX1_init_16 rfl rfl rfl ?_
  refine g_bipush (pc' := 19) (v := nI 6) C dX1_init_17 (by decide) rfl ?_
  refine g_newI (pc' := 21) (z := 6) C hA wd_arr_int (by decide) (Nat.le_of_ble_eq_true rfl) (Nat.le_of_ble_eq_true rfl) dX1_init_19 rfl (fun q_19_2 => ?_)
  show G p l e (rmv 0 9 461) s m ([.ref c0] : List Value).toArray below meth c κ 1 (JM A s) [(c0, .inr (1, [.ref q_9_1, .null])), (q_9_1, .inl (κ.2 3, 7, .inr (.inr (.inr (.inr (g7 r_9_1)))))), ((r_9_1 0), .inl (κ.2 0, 64, .inl (nA ((fun _ _ => 0 : Nat → Nat → Nat) 0)))), ((r_9_1 1), .inl (κ.2 0, 64, .inl (nA ((fun _ _ => 0 : Nat → Nat → Nat) 1)))), ((r_9_1 2), .inl (κ.2 0, 64, .inl (nA ((fun _ _ => 0 : Nat → Nat → Nat) 2)))), ((r_9_1 3), .inl (κ.2 0, 64, .inl (nA ((fun _ _ => 0 : Nat → Nat → Nat) 3)))), ((r_9_1 4), .inl (κ.2 0, 64, .inl (nA ((fun _ _ => 0 : Nat → Nat → Nat) 4)))), ((r_9_1 5), .inl (κ.2 0, 64, .inl (nA ((fun _ _ => 0 : Nat → Nat → Nat) 5)))), ((r_9_1 6), .inl (κ.2 0, 64, .inl (nA ((fun _ _ => 0 : Nat → Nat → Nat) 6)))), (q_19_2, .inl (κ.2 0, 6, .inl (oA (fun _ => some 0))))] 9 461 (MQ below (QMv κ [(c0, .inr (1, [.null, .null]))] s.heap.size (fun (vw_ : va_W) => ∃ (c1 : Nat), ∃ (c2 : Nat), ∃ (cr : Nat → Nat), vw_ = [(c0, .inr (1, [.ref c1, .ref c2])), (c1, .inl (κ.2 3, 7, .inr (.inr (.inr (.inr (g7 cr)))))), ((cr 0), .inl (κ.2 0, 64, .inl (nA ((fun _ _ => 0 : Nat → Nat → Nat) 0)))), ((cr 1), .inl (κ.2 0, 64, .inl (nA ((fun _ _ => 0 : Nat → Nat → Nat) 1)))), ((cr 2), .inl (κ.2 0, 64, .inl (nA ((fun _ _ => 0 : Nat → Nat → Nat) 2)))), ((cr 3), .inl (κ.2 0, 64, .inl (nA ((fun _ _ => 0 : Nat → Nat → Nat) 3)))), ((cr 4), .inl (κ.2 0, 64, .inl (nA ((fun _ _ => 0 : Nat → Nat → Nat) 4)))), ((cr 5), .inl (κ.2 0, 64, .inl (nA ((fun _ _ => 0 : Nat → Nat → Nat) 5)))), ((cr 6), .inl (κ.2 0, 64, .inl (nA ((fun _ _ => 0 : Nat → Nat → Nat) 6)))), (c2, .inl (κ.2 0, 6, .inl (oA (fun _ => some 0))))])) ([.ref c0] : List Value).toArray s 9 461 A) 21 [(0, .ref c0)] [.ref q_19_2, .ref c0]
  refine g_putF (pc' := 24) (ws' := [(c0, .inr (1, [.ref q_9_1, .ref q_19_2])), (q_9_1, .inl (κ.2 3, 7, .inr (.inr (.inr (.inr (g7 r_9_1)))))), ((r_9_1 0), .inl (κ.2 0, 64, .inl (nA ((fun _ _ => 0 : Nat → Nat → Nat) 0)))), ((r_9_1 1), .inl (κ.2 0, 64, .inl (nA ((fun _ _ => 0 : Nat → Nat → Nat) 1)))), ((r_9_1 2), .inl (κ.2 0, 64, .inl (nA ((fun _ _ => 0 : Nat → Nat → Nat) 2)))), ((r_9_1 3), .inl (κ.2 0, 64, .inl (nA ((fun _ _ => 0 : Nat → Nat → Nat) 3)))), ((r_9_1 4), .inl (κ.2 0, 64, .inl (nA ((fun _ _ => 0 : Nat → Nat → Nat) 4)))), ((r_9_1 5), .inl (κ.2 0, 64, .inl (nA ((fun _ _ => 0 : Nat → Nat → Nat) 5)))), ((r_9_1 6), .inl (κ.2 0, 64, .inl (nA ((fun _ _ => 0 : Nat → Nat → Nat) 6)))), (q_19_2, .inl (κ.2 0, 6, .inl (oA (fun _ => some 0))))]) C (hini rfl) fp_RX1_16_1 0 rfl rfl rfl (Nat.le_of_ble_eq_true rfl) rfl dX1_init_21 rfl ?_
  exact g_retMv C hAe rfl (Nat.le_of_ble_eq_true rfl) (Nat.le_of_ble_eq_true rfl) (⟨_, _, _, rfl⟩) dX1_init_24

set_option maxHeartbeats 4000000 in
set_option maxRecDepth 100000 in
theorem kX0_init (l : Launch) (κ : KK) (k0 : Nat) : CMv l yX0_init cX0_init 1 none 0 8 54 κ [.ref k0] [(k0, .inr (0, [.null, .null]))] (fun (vw_ : va_W) => ∃ (k1 : Nat), ∃ (k2 : Nat), ∃ (ki : Nat → Nat), ∃ (kd : Nat → Nat), vw_ = [(k0, .inr (0, [.ref k1, .ref k2])), (k1, .inl (κ.2 3, 3, .inr (.inr (.inr (.inr (g3 ki)))))), ((ki 0), .inl (κ.2 0, 8, .inl (nA ((fun _ _ => 0 : Nat → Nat → Nat) 0)))), ((ki 1), .inl (κ.2 0, 8, .inl (nA ((fun _ _ => 0 : Nat → Nat → Nat) 1)))), ((ki 2), .inl (κ.2 0, 8, .inl (nA ((fun _ _ => 0 : Nat → Nat → Nat) 2)))), (k2, .inl (κ.2 3, 3, .inr (.inr (.inr (.inr (g3 kd)))))), ((kd 0), .inl (κ.2 0, 8, .inl (nA ((fun _ _ => 0 : Nat → Nat → Nat) 0)))), ((kd 1), .inl (κ.2 0, 8, .inl (nA ((fun _ _ => 0 : Nat → Nat → Nat) 1)))), ((kd 2), .inl (κ.2 0, 8, .inl (nA ((fun _ _ => 0 : Nat → Nat → Nat) 2))))]) := by
  refine cmv_of RX0 rfl (by decide) (Nat.le_of_ble_eq_true rfl) ?_
  intro p e s m below meth c A C hAe hA hini
  refine g_lv (lv' := [(0, .ref k0)]) [0] rfl ?_
  refine g_aload_n (pc' := 1) C 0 dX0_init_0 rfl rfl rfl ?_
  refine g_objInit (pc' := 4) C oi_RX0_3 wd_oi2 wd_oi3 (Nat.le_of_ble_eq_true rfl) (Nat.le_of_ble_eq_true rfl) dX0_init_1 rfl ?_
  refine g_aload_n (pc' := 5) C 0 dX0_init_4 rfl rfl rfl ?_
  refine g_iconst (pc' := 6) (v := nI 3) C dX0_init_5 (by decide) rfl ?_
  refine g_bipush (pc' := 8) (v := nI 8) C dX0_init_6 (by decide) rfl ?_
  refine g_mna (pc' := 12) (z := 3) (t := 8) C hA cl_RX0_9 wd_arr_int (by decide) (by decide) (Nat.le_of_ble_eq_true rfl) (Nat.le_of_ble_eq_true rfl) dX0_init_8 rfl (fun q_8_1 r_8_1 => ?_)
  show G p l e (rmv 0 8 54) s m ([.ref k0] : List Value).toArray below meth c κ 1 (JM A s) [(k0, .inr (0, [.null, .null])), (q_8_1, .inl (κ.2 3, 3, .inr (.inr (.inr (.inr (g3 r_8_1)))))), ((r_8_1 0), .inl (κ.2 0, 8, .inl (nA ((fun _ _ => 0 : Nat → Nat → Nat) 0)))), ((r_8_1 1), .inl (κ.2 0, 8, .inl (nA ((fun _ _ => 0 : Nat → Nat → Nat) 1)))), ((r_8_1 2), .inl (κ.2 0, 8, .inl (nA ((fun _ _ => 0 : Nat → Nat → Nat) 2))))] 4 27 (MQ below (QMv κ [(k0, .inr (0, [.null, .null]))] s.heap.size (fun (vw_ : va_W) => ∃ (k1 : Nat), ∃ (k2 : Nat), ∃ (ki : Nat → Nat), ∃ (kd : Nat → Nat), vw_ = [(k0, .inr (0, [.ref k1, .ref k2])), (k1, .inl (κ.2 3, 3, .inr (.inr (.inr (.inr (g3 ki)))))), ((ki 0), .inl (κ.2 0, 8, .inl (nA ((fun _ _ => 0 : Nat → Nat → Nat) 0)))), ((ki 1), .inl (κ.2 0, 8, .inl (nA ((fun _ _ => 0 : Nat → Nat → Nat) 1)))), ((ki 2), .inl (κ.2 0, 8, .inl (nA ((fun _ _ => 0 : Nat → Nat → Nat) 2)))), (k2, .inl (κ.2 3, 3, .inr (.inr (.inr (.inr (g3 kd)))))), ((kd 0), .inl (κ.2 0, 8, .inl (nA ((fun _ _ => 0 : Nat → Nat → Nat) 0)))), ((kd 1), .inl (κ.2 0, 8, .inl (nA ((fun _ _ => 0 : Nat → Nat → Nat) 1)))), ((kd 2), .inl (κ.2 0, 8, .inl (nA ((fun _ _ => 0 : Nat → Nat → Nat) 2))))])) ([.ref k0] : List Value).toArray s 8 54 A) 12 [(0, .ref k0)] [.ref q_8_1, .ref k0]
  refine g_putF (pc' := 15) (ws' := [(k0, .inr (0, [.ref q_8_1, .null])), (q_8_1, .inl (κ.2 3, 3, .inr (.inr (.inr (.inr (g3 r_8_1)))))), ((r_8_1 0), .inl (κ.2 0, 8, .inl (nA ((fun _ _ => 0 : Nat → Nat → Nat) 0)))), ((r_8_1 1), .inl (κ.2 0, 8, .inl (nA ((fun _ _ => 0 : Nat → Nat → Nat) 1)))), ((r_8_1 2), .inl (κ.2 0, 8, .inl (nA ((fun _ _ => 0 : Nat → Nat → Nat) 2))))]) C (hini rfl) fp_RX0_11_0 0 rfl rfl rfl (Nat.le_of_ble_eq_true rfl) rfl dX0_init_12 rfl ?_
  refine g_aload_n (pc' := 16) C 0 dX0_init_15 rfl rfl rfl ?_
  refine g_iconst (pc' := 17) (v := nI 3) C dX0_init_16 (by decide) rfl ?_
  refine g_bipush (pc' := 19) (v := nI 8) C dX0_init_17 (by decide) rfl ?_
  refine g_mna (pc' := 23) (z := 3) (t := 8) C hA cl_RX0_9 wd_arr_int (by decide) (by decide) (Nat.le_of_ble_eq_true rfl) (Nat.le_of_ble_eq_true rfl) dX0_init_19 rfl (fun q_19_2 r_19_2 => ?_)
  show G p l e (rmv 0 8 54) s m ([.ref k0] : List Value).toArray below meth c κ 1 (JM A s) [(k0, .inr (0, [.ref q_8_1, .null])), (q_8_1, .inl (κ.2 3, 3, .inr (.inr (.inr (.inr (g3 r_8_1)))))), ((r_8_1 0), .inl (κ.2 0, 8, .inl (nA ((fun _ _ => 0 : Nat → Nat → Nat) 0)))), ((r_8_1 1), .inl (κ.2 0, 8, .inl (nA ((fun _ _ => 0 : Nat → Nat → Nat) 1)))), ((r_8_1 2), .inl (κ.2 0, 8, .inl (nA ((fun _ _ => 0 : Nat → Nat → Nat) 2)))), (q_19_2, .inl (κ.2 3, 3, .inr (.inr (.inr (.inr (g3 r_19_2)))))), ((r_19_2 0), .inl (κ.2 0, 8, .inl (nA ((fun _ _ => 0 : Nat → Nat → Nat) 0)))), ((r_19_2 1), .inl (κ.2 0, 8, .inl (nA ((fun _ _ => 0 : Nat → Nat → Nat) 1)))), ((r_19_2 2), .inl (κ.2 0, 8, .inl (nA ((fun _ _ => 0 : Nat → Nat → Nat) 2))))] 8 54 (MQ below (QMv κ [(k0, .inr (0, [.null, .null]))] s.heap.size (fun (vw_ : va_W) => ∃ (k1 : Nat), ∃ (k2 : Nat), ∃ (ki : Nat → Nat), ∃ (kd : Nat → Nat), vw_ = [(k0, .inr (0, [.ref k1, .ref k2])), (k1, .inl (κ.2 3, 3, .inr (.inr (.inr (.inr (g3 ki)))))), ((ki 0), .inl (κ.2 0, 8, .inl (nA ((fun _ _ => 0 : Nat → Nat → Nat) 0)))), ((ki 1), .inl (κ.2 0, 8, .inl (nA ((fun _ _ => 0 : Nat → Nat → Nat) 1)))), ((ki 2), .inl (κ.2 0, 8, .inl (nA ((fun _ _ => 0 : Nat → Nat → Nat) 2)))), (k2, .inl (κ.2 3, 3, .inr (.inr (.inr (.inr (g3 kd)))))), ((kd 0), .inl (κ.2 0, 8, .inl (nA ((fun _ _ => 0 : Nat → Nat → Nat) 0)))), ((kd 1), .inl (κ.2 0, 8, .inl (nA ((fun _ _ => 0 : Nat → Nat → Nat) 1)))), ((kd 2), .inl (κ.2 0, 8, .inl (nA ((fun _ _ => 0 : Nat → Nat → Nat) 2))))])) ([.ref k0] : List Value).toArray s 8 54 A) 23 [(0, .ref k0)] [.ref q_19_2, .ref k0]
  refine g_putF (pc' := 26) (ws' := [(k0, .inr (0, [.ref q_8_1, .ref q_19_2])), (q_8_1, .inl (κ.2 3, 3, .inr (.inr (.inr (.inr (g3 r_8_1)))))), ((r_8_1 0), .inl (κ.2 0, 8, .inl (nA ((fun _ _ => 0 : Nat → Nat → Nat) 0)))), ((r_8_1 1), .inl (κ.2 0, 8, .inl (nA ((fun _ _ => 0 : Nat → Nat → Nat) 1)))), ((r_8_1 2), .inl (κ.2 0, 8, .inl (nA ((fun _ _ => 0 : Nat → Nat → Nat) 2)))), (q_19_2, .inl (κ.2 3, 3, .inr (.inr (.inr (.inr (g3 r_19_2)))))), ((r_19_2 0), .inl (κ.2 0, 8, .inl (nA ((fun _ _ => 0 : Nat → Nat → Nat) 0)))), ((r_19_2 1), .inl (κ.2 0, 8, .inl (nA ((fun _ _ => 0 : Nat → Nat → Nat) 1)))), ((r_19_2 2), .inl (κ.2 0, 8, .inl (nA ((fun _ _ => 0 : Nat → Nat → Nat) 2))))]) C (hini rfl) fp_RX0_16_0 0 rfl rfl rfl (Nat.le_of_ble_eq_true rfl) rfl dX0_init_23 rfl ?_
  exact g_retMv C hAe rfl (Nat.le_of_ble_eq_true rfl) (Nat.le_of_ble_eq_true rfl) (⟨_, _, _, _, rfl⟩) dX0_init_26

set_option maxHeartbeats 4000000 in
set_option maxRecDepth 100000 in
theorem kX2_init_ph (l : Launch) (κ : KK) (e0 : Nat) (pr : Nat) : CMv l yX2_init cX2_init 2 none 0 0 0 κ [.ref e0, .int (nI pr)] [(e0, .inr (2, [.int (nI 0), .null]))] (fun (vw_ : va_W) => vw_ = [(e0, .inr (2, [.int (nI pr), .null]))]) := by
  refine cmv_of RX2 rfl (by decide) (Nat.le_of_ble_eq_true rfl) ?_
  intro p e s m below meth c A C hAe hA hini
  refine g_lv (lv' := [(0, .ref e0), (1, .int (nI pr))]) [0, 1] rfl ?_
  refine g_aload_n (pc' := 1) C 0 dX2_init_0 rfl rfl rfl ?_
  refine g_objInit (pc' := 4) C oi_RX2_1 wd_oi2 wd_oi3 (Nat.le_of_ble_eq_true rfl) (Nat.le_of_ble_eq_true rfl) dX2_init_1 rfl ?_
  refine g_aload_n (pc' := 5) C 0 dX2_init_4 rfl rfl rfl ?_
  refine g_iload_n (pc' := 6) C 1 dX2_init_5 rfl rfl rfl ?_
  refine g_putF (pc' := 9) (ws' := [(e0, .inr (2, [.int (nI pr), .null]))]) C (hini rfl) fp_RX2_7_2 0 rfl rfl rfl (Nat.le_of_ble_eq_true rfl) rfl dX2_init_6 rfl ?_
  exact g_retMv C hAe rfl (Nat.le_of_ble_eq_true rfl) (Nat.le_of_ble_eq_true rfl) (rfl) dX2_init_9

set_option maxHeartbeats 4000000 in
set_option maxRecDepth 100000 in
theorem kX2_init_sp (l : Launch) (κ : KK) (e0 : Nat) (pr : Nat) : CMv l yX2_init cX2_init 2 none 0 0 0 κ [.ref e0, .int (nI pr)] [(e0, .inr (5, [.int (nI 0), .int (nI 0), .int (nI 0), .int (nI 0)]))] (fun (vw_ : va_W) => vw_ = [(e0, .inr (5, [.int (nI pr), .int (nI 0), .int (nI 0), .int (nI 0)]))]) := by
  refine cmv_of RX2 rfl (by decide) (Nat.le_of_ble_eq_true rfl) ?_
  intro p e s m below meth c A C hAe hA hini
  refine g_lv (lv' := [(0, .ref e0), (1, .int (nI pr))]) [0, 1] rfl ?_
  refine g_aload_n (pc' := 1) C 0 dX2_init_0 rfl rfl rfl ?_
  refine g_objInit (pc' := 4) C oi_RX2_1 wd_oi2 wd_oi3 (Nat.le_of_ble_eq_true rfl) (Nat.le_of_ble_eq_true rfl) dX2_init_1 rfl ?_
  refine g_aload_n (pc' := 5) C 0 dX2_init_4 rfl rfl rfl ?_
  refine g_iload_n (pc' := 6) C 1 dX2_init_5 rfl rfl rfl ?_
  refine g_putF (pc' := 9) (ws' := [(e0, .inr (5, [.int (nI pr), .int (nI 0), .int (nI 0), .int (nI 0)]))]) C (hini rfl) fp_RX2_7_5 0 rfl rfl rfl (Nat.le_of_ble_eq_true rfl) rfl dX2_init_6 rfl ?_
  exact g_retMv C hAe rfl (Nat.le_of_ble_eq_true rfl) (Nat.le_of_ble_eq_true rfl) (rfl) dX2_init_9

set_option maxHeartbeats 4000000 in
set_option maxRecDepth 100000 in
theorem kX3_init (l : Launch) (κ : KK) (e0 : Nat) (pr : Nat) (e1 : Nat) : CMv l yX3_init cX3_init 3 none 1 0 0 κ [.ref e0, .int (nI pr), .ref e1] [(e0, .inr (2, [.int (nI 0), .null]))] (fun (vw_ : va_W) => vw_ = [(e0, .inr (2, [.int (nI pr), .ref e1]))]) := by
  refine cmv_of RX3 rfl (by decide) (Nat.le_of_ble_eq_true rfl) ?_
  intro p e s m below meth c A C hAe hA hini
  refine g_lv (lv' := [(0, .ref e0), (1, .int (nI pr)), (2, .ref e1)]) [0, 1, 2] rfl ?_
  refine g_aload_n (pc' := 1) C 0 dX3_init_0 rfl rfl rfl ?_
  refine g_iload_n (pc' := 2) C 1 dX3_init_1 rfl rfl rfl ?_
  refine g_callMI (pc' := 5) (wr := []) C hA lk_RX3_3 (kX2_init_ph l κ e0 pr) [0] [] rfl rfl ⟨rfl, rfl, by decide⟩ rfl (Nat.le_of_ble_eq_true rfl) ⟨Nat.le_of_ble_eq_true rfl, Nat.le_of_ble_eq_true rfl⟩ ⟨Nat.le_of_ble_eq_true rfl, Nat.le_of_ble_eq_true rfl⟩ rfl dX3_init_2 rfl (fun w_2_1 h_2_1 => ?_)
  obtain rfl : w_2_1 = [(e0, .inr (2, [.int (nI pr), .null]))] := h_2_1
  show G p l e (rmv 1 0 0) s m ([.ref e0, .int (nI pr), .ref e1] : List Value).toArray below meth c κ 3 (JM A s) [(e0, .inr (2, [.int (nI pr), .null]))] 0 0 (MQ below (QMv κ [(e0, .inr (2, [.int (nI 0), .null]))] s.heap.size (fun (vw_ : va_W) => vw_ = [(e0, .inr (2, [.int (nI pr), .ref e1]))])) ([.ref e0, .int (nI pr), .ref e1] : List Value).toArray s 0 0 A) 5 [(0, .ref e0), (1, .int (nI pr)), (2, .ref e1)] []
  refine g_aload_n (pc' := 6) C 0 dX3_init_5 rfl rfl rfl ?_
  refine g_aload_n (pc' := 7) C 2 dX3_init_6 rfl rfl rfl ?_
  refine g_putF (pc' := 10) (ws' := [(e0, .inr (2, [.int (nI pr), .ref e1]))]) C (hini rfl) fp_RX3_9_2 0 rfl rfl rfl (Nat.le_of_ble_eq_true rfl) rfl dX3_init_7 rfl ?_
  exact g_retMv C hAe rfl (Nat.le_of_ble_eq_true rfl) (Nat.le_of_ble_eq_true rfl) (rfl) dX3_init_10

set_option maxHeartbeats 4000000 in
set_option maxRecDepth 100000 in
theorem kX6_init (l : Launch) (κ : KK) (e0 : Nat) (pr : Nat) (fst : Nat) (sec : Nat) (rch : Nat) : CMv l yX6_init cX6_init 5 none 1 0 0 κ [.ref e0, .int (nI pr), .int (nI fst), .int (nI sec), .int (nI rch)] [(e0, .inr (5, [.int (nI 0), .int (nI 0), .int (nI 0), .int (nI 0)]))] (fun (vw_ : va_W) => vw_ = [(e0, .inr (5, [.int (nI pr), .int (nI fst), .int (nI sec), .int (nI rch)]))]) := by
  refine cmv_of RX6 rfl (by decide) (Nat.le_of_ble_eq_true rfl) ?_
  intro p e s m below meth c A C hAe hA hini
  refine g_lv (lv' := [(0, .ref e0), (1, .int (nI pr)), (2, .int (nI fst)), (3, .int (nI sec)), (4, .int (nI rch))]) [0, 1, 2, 3, 4] rfl ?_
  refine g_aload_n (pc' := 1) C 0 dX6_init_0 rfl rfl rfl ?_
  refine g_iload_n (pc' := 2) C 1 dX6_init_1 rfl rfl rfl ?_
  refine g_callMI (pc' := 5) (wr := []) C hA lk_RX6_3 (kX2_init_sp l κ e0 pr) [0] [] rfl rfl ⟨rfl, rfl, by decide⟩ rfl (Nat.le_of_ble_eq_true rfl) ⟨Nat.le_of_ble_eq_true rfl, Nat.le_of_ble_eq_true rfl⟩ ⟨Nat.le_of_ble_eq_true rfl, Nat.le_of_ble_eq_true rfl⟩ rfl dX6_init_2 rfl (fun w_2_1 h_2_1 => ?_)
  obtain rfl : w_2_1 = [(e0, .inr (5, [.int (nI pr), .int (nI 0), .int (nI 0), .int (nI 0)]))] := h_2_1
  show G p l e (rmv 1 0 0) s m ([.ref e0, .int (nI pr), .int (nI fst), .int (nI sec), .int (nI rch)] : List Value).toArray below meth c κ 5 (JM A s) [(e0, .inr (5, [.int (nI pr), .int (nI 0), .int (nI 0), .int (nI 0)]))] 0 0 (MQ below (QMv κ [(e0, .inr (5, [.int (nI 0), .int (nI 0), .int (nI 0), .int (nI 0)]))] s.heap.size (fun (vw_ : va_W) => vw_ = [(e0, .inr (5, [.int (nI pr), .int (nI fst), .int (nI sec), .int (nI rch)]))])) ([.ref e0, .int (nI pr), .int (nI fst), .int (nI sec), .int (nI rch)] : List Value).toArray s 0 0 A) 5 [(0, .ref e0), (1, .int (nI pr)), (2, .int (nI fst)), (3, .int (nI sec)), (4, .int (nI rch))] []
  refine g_aload_n (pc' := 6) C 0 dX6_init_5 rfl rfl rfl ?_
  refine g_iload_n (pc' := 7) C 2 dX6_init_6 rfl rfl rfl ?_
  refine g_putF (pc' := 10) (ws' := [(e0, .inr (5, [.int (nI pr), .int (nI fst), .int (nI 0), .int (nI 0)]))]) C (hini rfl) fp_RX6_9_5 0 rfl rfl rfl (Nat.le_of_ble_eq_true rfl) rfl dX6_init_7 rfl ?_
  refine g_aload_n (pc' := 11) C 0 dX6_init_10 rfl rfl rfl ?_
  refine g_iload_n (pc' := 12) C 3 dX6_init_11 rfl rfl rfl ?_
  refine g_putF (pc' := 15) (ws' := [(e0, .inr (5, [.int (nI pr), .int (nI fst), .int (nI sec), .int (nI 0)]))]) C (hini rfl) fp_RX6_15_5 0 rfl rfl rfl (Nat.le_of_ble_eq_true rfl) rfl dX6_init_12 rfl ?_
  refine g_aload_n (pc' := 16) C 0 dX6_init_15 rfl rfl rfl ?_
  refine g_iload (pc' := 18) C 4 dX6_init_16 rfl rfl ?_
  refine g_putF (pc' := 21) (ws' := [(e0, .inr (5, [.int (nI pr), .int (nI fst), .int (nI sec), .int (nI rch)]))]) C (hini rfl) fp_RX6_18_5 0 rfl rfl rfl (Nat.le_of_ble_eq_true rfl) rfl dX6_init_18 rfl ?_
  exact g_retMv C hAe rfl (Nat.le_of_ble_eq_true rfl) (Nat.le_of_ble_eq_true rfl) (rfl) dX6_init_21

set_option maxHeartbeats 4000000 in
set_option maxRecDepth 100000 in
theorem kJ7_copyOf_59c91 (l : Launch) (κ : KK) (m2 : Nat) (dr : Nat → Option Nat) (ds : Nat) (h4 : ds ≤ 4) : CMr l yJ7_copyOf_59c91 cJ7_copyOf_59c91 3 (some (.array .int)) 0 1 4 κ [.ref m2, .int (nI ds)] [(m2, .inl (κ.2 0, 4, .inl (oA dr)))] (fun (va_ : Nat) (vw_ : va_W) => ∃ (q9 : Nat), va_ = q9 ∧ vw_ = [(m2, .inl (κ.2 0, 4, .inl (oA dr))), (q9, .inl (κ.2 0, ds, .inl (oA dr)))]) := by
  refine cmr_of RJ7 rfl (by decide) (Nat.le_of_ble_eq_true rfl) ?_
  intro p e s m below meth c A C hAe hA
  refine g_lv (lv' := [(0, .ref m2), (1, .int (nI ds))]) [0, 1] rfl ?_
  refine g_iload_n (pc' := 1) C 1 dJ7_copyOf_59c91_0 rfl rfl rfl ?_
  refine g_aload_n (pc' := 2) C 0 dJ7_copyOf_59c91_1 rfl rfl rfl ?_
  refine g_alen (pc' := 3) C 0 0 rfl rfl dJ7_copyOf_59c91_2 rfl ?_
  refine g_icmp_neN (pc' := 6) (tgt := 14) C (by first | assumption | omega) (by first | assumption | omega) dJ7_copyOf_59c91_3 (by decide) rfl (fun c_3_1 => ?_) (fun c_3_1 => ?_)
  · refine g_iload_n (pc' := 15) C 1 dJ7_copyOf_59c91_14 rfl rfl rfl ?_
    refine g_newI (pc' := 17) (z := ds) C hA wd_arr_int (by omega) (Nat.le_of_ble_eq_true rfl) (by show 0 + ds ≤ 4; omega) dJ7_copyOf_59c91_15 rfl (fun q_15_2 => ?_)
    show G p l e (rmv 0 1 4) s m ([.ref m2, .int (nI ds)] : List Value).toArray below meth c κ 3 (JM A s) [(m2, .inl (κ.2 0, 4, .inl (oA dr))), (q_15_2, .inl (κ.2 0, ds, .inl (fun _ => 0)))] 1 (0 + ds) (MQ below (QMr κ [(m2, .inl (κ.2 0, 4, .inl (oA dr)))] s.heap.size (fun (va_ : Nat) (vw_ : va_W) => ∃ (q9 : Nat), va_ = q9 ∧ vw_ = [(m2, .inl (κ.2 0, 4, .inl (oA dr))), (q9, .inl (κ.2 0, ds, .inl (oA dr)))])) ([.ref m2, .int (nI ds)] : List Value).toArray s 1 4 A) 17 [(0, .ref m2), (1, .int (nI ds))] [.ref q_15_2]
    refine g_astore_n (pc' := 18) (lv' := [(2, .ref q_15_2), (0, .ref m2), (1, .int (nI ds))]) C dJ7_copyOf_59c91_17 rfl (by decide) rfl rfl ?_
    refine g_aload_n (pc' := 19) C 1 dJ7_copyOf_59c91_18 rfl rfl rfl ?_
    refine g_iconst (pc' := 20) (v := nI 0) C dJ7_copyOf_59c91_19 (by decide) rfl ?_
    refine g_aload_n (pc' := 21) C 0 dJ7_copyOf_59c91_20 rfl rfl rfl ?_
    refine g_iconst (pc' := 22) (v := nI 0) C dJ7_copyOf_59c91_21 (by decide) rfl ?_
    refine g_aload_n (pc' := 23) C 1 dJ7_copyOf_59c91_22 rfl rfl rfl ?_
    refine g_alen (pc' := 24) C 0 0 rfl rfl dJ7_copyOf_59c91_23 rfl ?_
    refine g_iload_n (pc' := 25) C 2 dJ7_copyOf_59c91_24 rfl rfl rfl ?_
    refine g_min (pc' := 28) (v := nI ds) C mn_RJ7_304 wd_mn2 wd_mn3 wd_mn4 (Nat.le_of_ble_eq_true rfl) (Nat.le_of_ble_eq_true rfl) (by simp only [rmv]; constructor <;> omega) (by exact (min_N (a := 4) (b := ds) (by decide) (by omega)).trans (congrArg nI (by omega))) dJ7_copyOf_59c91_25 rfl ?_
    refine g_copyI (pc' := 31) (ws' := [(m2, .inl (κ.2 0, 4, .inl (oA dr))), (q_15_2, .inl (κ.2 0, ds, .inl (va_cpy (oA dr) (fun _ => 0) 0 0 ds)))]) (t := ds) C ac_1 ac_2 ac_3 ac_4 0 1 rfl rfl (by omega) (by omega) (by omega) (Nat.le_of_ble_eq_true rfl) (Nat.le_of_ble_eq_true rfl) rfl dJ7_copyOf_59c91_28 rfl ?_
    refine g_same (ws' := [(m2, .inl (κ.2 0, 4, .inl (oA dr))), (q_15_2, .inl (κ.2 0, ds, .inl (oA dr)))]) 1 (oA dr) rfl (fun j hj => by simp [va_cpy, oA, hj]) rfl ?_
    refine g_aload_n (pc' := 32) C 0 dJ7_copyOf_59c91_31 rfl rfl rfl ?_
    exact g_retMr C hAe rfl (Or.inr ⟨_, rfl⟩) (by omega) (by omega) (⟨_, rfl, rfl⟩) dJ7_copyOf_59c91_32
  · obtain rfl : ds = 4 := c_3_1
    refine g_aload_n (pc' := 7) C 0 dJ7_copyOf_59c91_6 rfl rfl rfl ?_
    refine g_clone (pc' := 10) C hA cn_1 cn_2 cn_3 cn_4 cn_5 cn_6 0 rfl (Nat.le_of_ble_eq_true rfl) (Nat.le_of_ble_eq_true rfl) (Nat.le_of_ble_eq_true rfl) (Nat.le_of_ble_eq_true rfl) dJ7_copyOf_59c91_7 rfl (fun q_7_3 => ?_)
    show G p l e (rmv 0 1 4) s m ([.ref m2, .int (nI 4)] : List Value).toArray below meth c κ 3 (JM A s) [(m2, .inl (κ.2 0, 4, .inl (oA dr))), (q_7_3, .inl (κ.2 0, 4, .inl (oA dr)))] 1 4 (MQ below (QMr κ [(m2, .inl (κ.2 0, 4, .inl (oA dr)))] s.heap.size (fun (va_ : Nat) (vw_ : va_W) => ∃ (q9 : Nat), va_ = q9 ∧ vw_ = [(m2, .inl (κ.2 0, 4, .inl (oA dr))), (q9, .inl (κ.2 0, 4, .inl (oA dr)))])) ([.ref m2, .int (nI 4)] : List Value).toArray s 1 4 A) 10 [(0, .ref m2), (1, .int (nI 4))] [.ref q_7_3]
    refine g_castI (pc' := 13) C cl_RJ7_317 1 rfl dJ7_copyOf_59c91_10 rfl ?_
    exact g_retMr C hAe rfl (Or.inr ⟨_, rfl⟩) (Nat.le_of_ble_eq_true rfl) (Nat.le_of_ble_eq_true rfl) (⟨_, rfl, rfl⟩) dJ7_copyOf_59c91_13
