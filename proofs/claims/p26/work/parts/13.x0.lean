set_option maxHeartbeats 4000000 in
set_option maxRecDepth 100000 in
theorem kX0_hasRoom (l : Launch) (κ : KK) (k0 : Nat) (k1 : Nat) (k2 : Nat) (r : Nat) (e9 : Nat) (hr : r < 3) (he : e9 < 8) : CP l yX0_hasRoom cX0_hasRoom 3 (some .boolean) 0 κ [.ref k0, .int (nI r), .int (nI e9)] [(k0, .inr (0, [.ref k1, .ref k2]))] (fun vr_ => vr_ = b2i true) := by
  refine cp_of RX0 rfl (by decide) (Nat.le_of_ble_eq_true rfl) ?_
  intro p e s m below meth c C
  refine g_lv (lv' := [(0, .ref k0), (1, .int (nI r)), (2, .int (nI e9))]) [0, 1, 2] rfl ?_
  refine g_iload_n (pc' := 1) C 1 dX0_hasRoom_0 rfl rfl rfl ?_
  refine g_if_ltN (pc' := 4) (tgt := 23) C (by first | assumption | omega) dX0_hasRoom_1 (by decide) rfl ?_
  refine g_iload_n (pc' := 5) C 1 dX0_hasRoom_4 rfl rfl rfl ?_
  refine g_iconst (pc' := 6) (v := nI 3) C dX0_hasRoom_5 (by decide) rfl ?_
  refine g_icmp_geN (pc' := 9) (tgt := 23) C (by first | assumption | omega) (by first | assumption | omega) dX0_hasRoom_6 (by decide) rfl (fun c_6_2 => absurd c_6_2 (by omega)) (fun c_6_2 => ?_)
  refine g_iload_n (pc' := 10) C 2 dX0_hasRoom_9 rfl rfl rfl ?_
  refine g_if_ltN (pc' := 13) (tgt := 23) C (by first | assumption | omega) dX0_hasRoom_10 (by decide) rfl ?_
  refine g_iload_n (pc' := 14) C 2 dX0_hasRoom_13 rfl rfl rfl ?_
  refine g_bipush (pc' := 16) (v := nI 8) C dX0_hasRoom_14 (by decide) rfl ?_
  refine g_icmp_geN (pc' := 19) (tgt := 23) C (by first | assumption | omega) (by first | assumption | omega) dX0_hasRoom_16 (by decide) rfl (fun c_16_4 => ?_) (fun c_16_4 => ?_)
  · refine g_iconst (pc' := 24) (v := nI 0) C dX0_hasRoom_23 (by decide) rfl ?_
    exact g_retP C rfl rfl (show nI 0 = b2i true by exact bF (by simp <;> omega)) dX0_hasRoom_24
  · refine g_iconst (pc' := 20) (v := nI 1) C dX0_hasRoom_19 (by decide) rfl ?_
    refine g_goto (tgt := 24) C dX0_hasRoom_20 (by decide) ?_
    exact g_retP C rfl rfl (show nI 1 = b2i true by exact bT (by simp <;> omega)) dX0_hasRoom_24

set_option maxHeartbeats 4000000 in
set_option maxRecDepth 100000 in
theorem kX0_intervalOf (l : Launch) (κ : KK) (k0 : Nat) (k1 : Nat) (k2 : Nat) (ki : Nat → Nat) (kd : Nat → Nat) (iv : Nat → Nat → Nat) (dv : Nat → Nat → Nat) (r : Nat) (e9 : Nat) (hr : r < 3) (he : e9 < 8) : CP l yX0_intervalOf cX0_intervalOf 3 (some .int) 1 κ [.ref k0, .int (nI r), .int (nI e9)] [(k0, .inr (0, [.ref k1, .ref k2])), (k1, .inl (κ.2 3, 3, .inr (.inr (.inr (.inr (g3 ki)))))), (k2, .inl (κ.2 3, 3, .inr (.inr (.inr (.inr (g3 kd)))))), ((ki 0), .inl (κ.2 0, 8, .inl (nA (iv 0)))), ((ki 1), .inl (κ.2 0, 8, .inl (nA (iv 1)))), ((ki 2), .inl (κ.2 0, 8, .inl (nA (iv 2)))), ((kd 0), .inl (κ.2 0, 8, .inl (nA (dv 0)))), ((kd 1), .inl (κ.2 0, 8, .inl (nA (dv 1)))), ((kd 2), .inl (κ.2 0, 8, .inl (nA (dv 2))))] (fun vr_ => vr_ = nI (iv r e9)) := by
  refine cp_of RX0 rfl (by decide) (Nat.le_of_ble_eq_true rfl) ?_
  intro p e s m below meth c C
  refine g_lv (lv' := [(0, .ref k0), (1, .int (nI r)), (2, .int (nI e9))]) [0, 1, 2] rfl ?_
  refine g_aload_n (pc' := 1) C 0 dX0_intervalOf_0 rfl rfl rfl ?_
  refine g_iload_n (pc' := 2) C 1 dX0_intervalOf_1 rfl rfl rfl ?_
  refine g_iload_n (pc' := 3) C 2 dX0_intervalOf_2 rfl rfl rfl ?_
  refine g_callP (pc' := 6) C lk_RX0_19 (kX0_hasRoom l κ k0 k1 k2 r e9 (by first | assumption | omega) (by first | assumption | omega)) 0 rfl rfl [0] rfl rfl (Nat.le_of_ble_eq_true rfl) ⟨Nat.le_of_ble_eq_true rfl, Nat.le_of_ble_eq_true rfl⟩ ⟨Nat.le_of_ble_eq_true rfl, Nat.le_of_ble_eq_true rfl⟩ rfl dX0_intervalOf_3 rfl (fun r_3_1 h_3_1 => ?_)
  obtain rfl : r_3_1 = b2i true := h_3_1
  refine g_if_eqB (pc' := 9) (tgt := 20) C dX0_intervalOf_6 (by decide) rfl (fun z => absurd z (by decide)) (fun _ => ?_)
  refine g_aload_n (pc' := 10) C 0 dX0_intervalOf_9 rfl rfl rfl ?_
  refine g_get (pc' := 13) C fl_RX0_11_0 0 rfl rfl dX0_intervalOf_10 rfl ?_
  refine g_iload_n (pc' := 14) C 1 dX0_intervalOf_13 rfl rfl rfl ?_
  refine g_aald2 (pc' := 15) (b := (ki r)) C 1 rfl r (by first | assumption | omega) (by decide) (g3_at (by omega)) dX0_intervalOf_14 rfl ?_
  refine g_iload_n (pc' := 16) C 2 dX0_intervalOf_15 rfl rfl rfl ?_
  refine g_ialdN (pc' := 17) C (3 + r) (f := (iv r)) (row3 (κ := κ) (cr := ki) (M := iv) (X := [(k0, .inr (0, [.ref k1, .ref k2])), (k1, .inl (κ.2 3, 3, .inr (.inr (.inr (.inr (g3 ki)))))), (k2, .inl (κ.2 3, 3, .inr (.inr (.inr (.inr (g3 kd))))))]) (Y := [((kd 0), .inl (κ.2 0, 8, .inl (nA (dv 0)))), ((kd 1), .inl (κ.2 0, 8, .inl (nA (dv 1)))), ((kd 2), .inl (κ.2 0, 8, .inl (nA (dv 2))))]) (b := 3) rfl rfl (by omega)) e9 (by first | assumption | omega) (by decide) dX0_intervalOf_16 rfl ?_
  refine g_goto (tgt := 21) C dX0_intervalOf_17 (by decide) ?_
  exact g_retP C rfl rfl (show nI ((iv r) e9) = nI (iv r e9) by rfl) dX0_intervalOf_21

set_option maxHeartbeats 4000000 in
set_option maxRecDepth 100000 in
theorem kX0_has (l : Launch) (κ : KK) (k0 : Nat) (k1 : Nat) (k2 : Nat) (ki : Nat → Nat) (kd : Nat → Nat) (iv : Nat → Nat → Nat) (dv : Nat → Nat → Nat) (r : Nat) (e9 : Nat) (hK : KW iv dv) (hr : r < 3) (he : e9 < 8) : CP l yX0_has cX0_has 3 (some .boolean) 2 κ [.ref k0, .int (nI r), .int (nI e9)] [(k0, .inr (0, [.ref k1, .ref k2])), (k1, .inl (κ.2 3, 3, .inr (.inr (.inr (.inr (g3 ki)))))), (k2, .inl (κ.2 3, 3, .inr (.inr (.inr (.inr (g3 kd)))))), ((ki 0), .inl (κ.2 0, 8, .inl (nA (iv 0)))), ((ki 1), .inl (κ.2 0, 8, .inl (nA (iv 1)))), ((ki 2), .inl (κ.2 0, 8, .inl (nA (iv 2)))), ((kd 0), .inl (κ.2 0, 8, .inl (nA (dv 0)))), ((kd 1), .inl (κ.2 0, 8, .inl (nA (dv 1)))), ((kd 2), .inl (κ.2 0, 8, .inl (nA (dv 2))))] (fun vr_ => vr_ = b2i (decide (0 < iv r e9))) := by
  refine cp_of RX0 rfl (by decide) (Nat.le_of_ble_eq_true rfl) ?_
  intro p e s m below meth c C
  refine g_lv (lv' := [(0, .ref k0), (1, .int (nI r)), (2, .int (nI e9))]) [0, 1, 2] rfl ?_
  refine g_aload_n (pc' := 1) C 0 dX0_has_0 rfl rfl rfl ?_
  refine g_iload_n (pc' := 2) C 1 dX0_has_1 rfl rfl rfl ?_
  refine g_iload_n (pc' := 3) C 2 dX0_has_2 rfl rfl rfl ?_
  refine g_callP (pc' := 6) C lk_RX0_23 (kX0_intervalOf l κ k0 k1 k2 ki kd iv dv r e9 (by first | assumption | omega) (by first | assumption | omega)) 0 rfl rfl [0, 1, 2, 3, 4, 5, 6, 7, 8] rfl rfl (Nat.le_of_ble_eq_true rfl) ⟨Nat.le_of_ble_eq_true rfl, Nat.le_of_ble_eq_true rfl⟩ ⟨Nat.le_of_ble_eq_true rfl, Nat.le_of_ble_eq_true rfl⟩ rfl dX0_has_3 rfl (fun r_3_1 h_3_1 => ?_)
  obtain rfl : r_3_1 = nI (iv r e9) := h_3_1
  refine g_if_leN (pc' := 9) (tgt := 13) C (by have := (hK r e9).1; omega) dX0_has_6 (by decide) rfl (fun c_6_2 => ?_) (fun c_6_2 => ?_)
  · refine g_iconst (pc' := 14) (v := nI 0) C dX0_has_13 (by decide) rfl ?_
    exact g_retP C rfl rfl (show nI 0 = b2i (decide (0 < iv r e9)) by exact bF (by simp <;> omega)) dX0_has_14
  · refine g_iconst (pc' := 10) (v := nI 1) C dX0_has_9 (by decide) rfl ?_
    refine g_goto (tgt := 14) C dX0_has_10 (by decide) ?_
    exact g_retP C rfl rfl (show nI 1 = b2i (decide (0 < iv r e9)) by exact bT (by simp <;> omega)) dX0_has_14

set_option maxHeartbeats 4000000 in
set_option maxRecDepth 100000 in
theorem kX0_isDue (l : Launch) (κ : KK) (k0 : Nat) (k1 : Nat) (k2 : Nat) (ki : Nat → Nat) (kd : Nat → Nat) (iv : Nat → Nat → Nat) (dv : Nat → Nat → Nat) (r : Nat) (e9 : Nat) (td : Nat) (hK : KW iv dv) (hr : r < 3) (he : e9 < 8) (htd : td < 2 ^ 30) : CP l yX0_isDue cX0_isDue 4 (some .boolean) 3 κ [.ref k0, .int (nI r), .int (nI e9), .int (nI td)] [(k0, .inr (0, [.ref k1, .ref k2])), (k1, .inl (κ.2 3, 3, .inr (.inr (.inr (.inr (g3 ki)))))), (k2, .inl (κ.2 3, 3, .inr (.inr (.inr (.inr (g3 kd)))))), ((ki 0), .inl (κ.2 0, 8, .inl (nA (iv 0)))), ((ki 1), .inl (κ.2 0, 8, .inl (nA (iv 1)))), ((ki 2), .inl (κ.2 0, 8, .inl (nA (iv 2)))), ((kd 0), .inl (κ.2 0, 8, .inl (nA (dv 0)))), ((kd 1), .inl (κ.2 0, 8, .inl (nA (dv 1)))), ((kd 2), .inl (κ.2 0, 8, .inl (nA (dv 2))))] (fun vr_ => vr_ = b2i (decide (0 < iv r e9) && decide (dv r e9 ≤ td))) := by
  refine cp_of RX0 rfl (by decide) (Nat.le_of_ble_eq_true rfl) ?_
  intro p e s m below meth c C
  refine g_lv (lv' := [(0, .ref k0), (1, .int (nI r)), (2, .int (nI e9)), (3, .int (nI td))]) [0, 1, 2, 3] rfl ?_
  refine g_aload_n (pc' := 1) C 0 dX0_isDue_0 rfl rfl rfl ?_
  refine g_iload_n (pc' := 2) C 1 dX0_isDue_1 rfl rfl rfl ?_
  refine g_iload_n (pc' := 3) C 2 dX0_isDue_2 rfl rfl rfl ?_
  refine g_callP (pc' := 6) C lk_RX0_27 (kX0_has l κ k0 k1 k2 ki kd iv dv r e9 (by first | assumption | omega) (by first | assumption | omega) (by first | assumption | omega)) 0 rfl rfl [0, 1, 2, 3, 4, 5, 6, 7, 8] rfl rfl (Nat.le_of_ble_eq_true rfl) ⟨Nat.le_of_ble_eq_true rfl, Nat.le_of_ble_eq_true rfl⟩ ⟨Nat.le_of_ble_eq_true rfl, Nat.le_of_ble_eq_true rfl⟩ rfl dX0_isDue_3 rfl (fun r_3_1 h_3_1 => ?_)
  obtain rfl : r_3_1 = b2i (decide (0 < iv r e9)) := h_3_1
  refine g_if_eqB (pc' := 9) (tgt := 25) C dX0_isDue_6 (by decide) rfl (fun c_6_2 => ?_) (fun c_6_2 => ?_)
  · refine g_iconst (pc' := 26) (v := nI 0) C dX0_isDue_25 (by decide) rfl ?_
    exact g_retP C rfl rfl (show nI 0 = b2i (decide (0 < iv r e9) && decide (dv r e9 ≤ td)) by exact bF (by simp at *; simp [*] <;> omega)) dX0_isDue_26
  · refine g_aload_n (pc' := 10) C 0 dX0_isDue_9 rfl rfl rfl ?_
    refine g_get (pc' := 13) C fl_RX0_16_0 0 rfl rfl dX0_isDue_10 rfl ?_
    refine g_iload_n (pc' := 14) C 1 dX0_isDue_13 rfl rfl rfl ?_
    refine g_aald2 (pc' := 15) (b := (kd r)) C 2 rfl r (by first | assumption | omega) (by decide) (g3_at (by omega)) dX0_isDue_14 rfl ?_
    refine g_iload_n (pc' := 16) C 2 dX0_isDue_15 rfl rfl rfl ?_
    refine g_ialdN (pc' := 17) C (6 + r) (f := (dv r)) (row3 (κ := κ) (cr := kd) (M := dv) (X := [(k0, .inr (0, [.ref k1, .ref k2])), (k1, .inl (κ.2 3, 3, .inr (.inr (.inr (.inr (g3 ki)))))), (k2, .inl (κ.2 3, 3, .inr (.inr (.inr (.inr (g3 kd)))))), ((ki 0), .inl (κ.2 0, 8, .inl (nA (iv 0)))), ((ki 1), .inl (κ.2 0, 8, .inl (nA (iv 1)))), ((ki 2), .inl (κ.2 0, 8, .inl (nA (iv 2))))]) (Y := []) (b := 6) rfl rfl (by omega)) e9 (by first | assumption | omega) (by decide) dX0_isDue_16 rfl ?_
    refine g_iload_n (pc' := 18) C 3 dX0_isDue_17 rfl rfl rfl ?_
    refine g_icmp_gtN (pc' := 21) (tgt := 25) C (by have := (hK r e9).2; omega) (by first | assumption | omega) dX0_isDue_18 (by decide) rfl (fun c_18_3 => ?_) (fun c_18_3 => ?_)
    · refine g_iconst (pc' := 26) (v := nI 0) C dX0_isDue_25 (by decide) rfl ?_
      exact g_retP C rfl rfl (show nI 0 = b2i (decide (0 < iv r e9) && decide (dv r e9 ≤ td)) by exact bF (by simp at *; simp [*] <;> omega)) dX0_isDue_26
    · refine g_iconst (pc' := 22) (v := nI 1) C dX0_isDue_21 (by decide) rfl ?_
      refine g_goto (tgt := 26) C dX0_isDue_22 (by decide) ?_
      exact g_retP C rfl rfl (show nI 1 = b2i (decide (0 < iv r e9) && decide (dv r e9 ≤ td)) by exact bT (by simp at *; simp [*] <;> omega)) dX0_isDue_26

set_option maxHeartbeats 4000000 in
set_option maxRecDepth 100000 in
theorem kX0_put (l : Launch) (κ : KK) (k0 : Nat) (k1 : Nat) (k2 : Nat) (ki : Nat → Nat) (kd : Nat → Nat) (iv : Nat → Nat → Nat) (dv : Nat → Nat → Nat) (r : Nat) (e9 : Nat) (x9 : Nat) (td : Nat) (hr : r < 3) (he : e9 < 8) : CMv l yX0_put cX0_put 5 none 1 0 0 κ [.ref k0, .int (nI r), .int (nI e9), .int (nI x9), .int (nI td)] [(k0, .inr (0, [.ref k1, .ref k2])), (k1, .inl (κ.2 3, 3, .inr (.inr (.inr (.inr (g3 ki)))))), (k2, .inl (κ.2 3, 3, .inr (.inr (.inr (.inr (g3 kd)))))), ((ki 0), .inl (κ.2 0, 8, .inl (nA (iv 0)))), ((ki 1), .inl (κ.2 0, 8, .inl (nA (iv 1)))), ((ki 2), .inl (κ.2 0, 8, .inl (nA (iv 2)))), ((kd 0), .inl (κ.2 0, 8, .inl (nA (dv 0)))), ((kd 1), .inl (κ.2 0, 8, .inl (nA (dv 1)))), ((kd 2), .inl (κ.2 0, 8, .inl (nA (dv 2))))] (fun (vw_ : va_W) => vw_ = [(k0, .inr (0, [.ref k1, .ref k2])), (k1, .inl (κ.2 3, 3, .inr (.inr (.inr (.inr (g3 ki)))))), (k2, .inl (κ.2 3, 3, .inr (.inr (.inr (.inr (g3 kd)))))), ((ki 0), .inl (κ.2 0, 8, .inl (nA ((va_up iv r (va_up (iv r) e9 x9)) 0)))), ((ki 1), .inl (κ.2 0, 8, .inl (nA ((va_up iv r (va_up (iv r) e9 x9)) 1)))), ((ki 2), .inl (κ.2 0, 8, .inl (nA ((va_up iv r (va_up (iv r) e9 x9)) 2)))), ((kd 0), .inl (κ.2 0, 8, .inl (nA ((va_up dv r (va_up (dv r) e9 (td + x9))) 0)))), ((kd 1), .inl (κ.2 0, 8, .inl (nA ((va_up dv r (va_up (dv r) e9 (td + x9))) 1)))), ((kd 2), .inl (κ.2 0, 8, .inl (nA ((va_up dv r (va_up (dv r) e9 (td + x9))) 2))))]) := by
  refine cmv_of RX0 rfl (by decide) (Nat.le_of_ble_eq_true rfl) ?_
  intro p e s m below meth c A C hAe hA hini
  refine g_lv (lv' := [(0, .ref k0), (1, .int (nI r)), (2, .int (nI e9)), (3, .int (nI x9)), (4, .int (nI td))]) [0, 1, 2, 3, 4] rfl ?_
  refine g_aload_n (pc' := 1) C 0 dX0_put_0 rfl rfl rfl ?_
  refine g_iload_n (pc' := 2) C 1 dX0_put_1 rfl rfl rfl ?_
  refine g_iload_n (pc' := 3) C 2 dX0_put_2 rfl rfl rfl ?_
  refine g_callP (pc' := 6) C lk_RX0_19 (kX0_hasRoom l κ k0 k1 k2 r e9 (by first | assumption | omega) (by first | assumption | omega)) 0 rfl rfl [0] rfl rfl (Nat.le_of_ble_eq_true rfl) ⟨Nat.le_of_ble_eq_true rfl, Nat.le_of_ble_eq_true rfl⟩ ⟨Nat.le_of_ble_eq_true rfl, Nat.le_of_ble_eq_true rfl⟩ rfl dX0_put_3 rfl (fun r_3_1 h_3_1 => ?_)
  obtain rfl : r_3_1 = b2i true := h_3_1
  refine g_if_eqB (pc' := 9) (tgt := 30) C dX0_put_6 (by decide) rfl (fun z => absurd z (by decide)) (fun _ => ?_)
  refine g_aload_n (pc' := 10) C 0 dX0_put_9 rfl rfl rfl ?_
  refine g_get (pc' := 13) C fl_RX0_11_0 0 rfl rfl dX0_put_10 rfl ?_
  refine g_iload_n (pc' := 14) C 1 dX0_put_13 rfl rfl rfl ?_
  refine g_aald2 (pc' := 15) (b := (ki r)) C 1 rfl r (by first | assumption | omega) (by decide) (g3_at (by omega)) dX0_put_14 rfl ?_
  refine g_iload_n (pc' := 16) C 2 dX0_put_15 rfl rfl rfl ?_
  refine g_iload_n (pc' := 17) C 3 dX0_put_16 rfl rfl rfl ?_
  refine g_iastN (pc' := 18) (ws' := [(k0, .inr (0, [.ref k1, .ref k2])), (k1, .inl (κ.2 3, 3, .inr (.inr (.inr (.inr (g3 ki)))))), (k2, .inl (κ.2 3, 3, .inr (.inr (.inr (.inr (g3 kd)))))), ((ki 0), .inl (κ.2 0, 8, .inl (nA ((va_up iv r (va_up (iv r) e9 x9)) 0)))), ((ki 1), .inl (κ.2 0, 8, .inl (nA ((va_up iv r (va_up (iv r) e9 x9)) 1)))), ((ki 2), .inl (κ.2 0, 8, .inl (nA ((va_up iv r (va_up (iv r) e9 x9)) 2)))), ((kd 0), .inl (κ.2 0, 8, .inl (nA (dv 0)))), ((kd 1), .inl (κ.2 0, 8, .inl (nA (dv 1)))), ((kd 2), .inl (κ.2 0, 8, .inl (nA (dv 2))))]) C (3 + r) (f := (iv r)) (row3 (κ := κ) (cr := ki) (M := iv) (X := [(k0, .inr (0, [.ref k1, .ref k2])), (k1, .inl (κ.2 3, 3, .inr (.inr (.inr (.inr (g3 ki)))))), (k2, .inl (κ.2 3, 3, .inr (.inr (.inr (.inr (g3 kd))))))]) (Y := [((kd 0), .inl (κ.2 0, 8, .inl (nA (dv 0)))), ((kd 1), .inl (κ.2 0, 8, .inl (nA (dv 1)))), ((kd 2), .inl (κ.2 0, 8, .inl (nA (dv 2))))]) (b := 3) rfl rfl (by omega)) e9 (by first | assumption | omega) (by decide) (rowset3 (κ := κ) (cr := ki) (M := iv) (X := [(k0, .inr (0, [.ref k1, .ref k2])), (k1, .inl (κ.2 3, 3, .inr (.inr (.inr (.inr (g3 ki)))))), (k2, .inl (κ.2 3, 3, .inr (.inr (.inr (.inr (g3 kd))))))]) (Y := [((kd 0), .inl (κ.2 0, 8, .inl (nA (dv 0)))), ((kd 1), .inl (κ.2 0, 8, .inl (nA (dv 1)))), ((kd 2), .inl (κ.2 0, 8, .inl (nA (dv 2))))]) (b := 3) (j := r) (f := va_up (iv r) e9 x9) rfl rfl rfl (by omega)) dX0_put_17 rfl ?_
  refine g_aload_n (pc' := 19) C 0 dX0_put_18 rfl rfl rfl ?_
  refine g_get (pc' := 22) C fl_RX0_16_0 0 rfl rfl dX0_put_19 rfl ?_
  refine g_iload_n (pc' := 23) C 1 dX0_put_22 rfl rfl rfl ?_
  refine g_aald2 (pc' := 24) (b := (kd r)) C 2 rfl r (by first | assumption | omega) (by decide) (g3_at (by omega)) dX0_put_23 rfl ?_
  refine g_iload_n (pc' := 25) C 2 dX0_put_24 rfl rfl rfl ?_
  refine g_iload (pc' := 27) C 4 dX0_put_25 rfl rfl ?_
  refine g_iload_n (pc' := 28) C 3 dX0_put_27 rfl rfl rfl ?_
  refine g_iadd (pc' := 29) (v := nI (td + x9)) C dX0_put_28 (nI_add _ _) rfl ?_
  refine g_iastN (pc' := 30) (ws' := [(k0, .inr (0, [.ref k1, .ref k2])), (k1, .inl (κ.2 3, 3, .inr (.inr (.inr (.inr (g3 ki)))))), (k2, .inl (κ.2 3, 3, .inr (.inr (.inr (.inr (g3 kd)))))), ((ki 0), .inl (κ.2 0, 8, .inl (nA ((va_up iv r (va_up (iv r) e9 x9)) 0)))), ((ki 1), .inl (κ.2 0, 8, .inl (nA ((va_up iv r (va_up (iv r) e9 x9)) 1)))), ((ki 2), .inl (κ.2 0, 8, .inl (nA ((va_up iv r (va_up (iv r) e9 x9)) 2)))), ((kd 0), .inl (κ.2 0, 8, .inl (nA ((va_up dv r (va_up (dv r) e9 (td + x9))) 0)))), ((kd 1), .inl (κ.2 0, 8, .inl (nA ((va_up dv r (va_up (dv r) e9 (td + x9))) 1)))), ((kd 2), .inl (κ.2 0, 8, .inl (nA ((va_up dv r (va_up (dv r) e9 (td + x9))) 2))))]) C (6 + r) (f := (dv r)) (row3 (κ := κ) (cr := kd) (M := dv) (X := [(k0, .inr (0, [.ref k1, .ref k2])), (k1, .inl (κ.2 3, 3, .inr (.inr (.inr (.inr (g3 ki)))))), (k2, .inl (κ.2 3, 3, .inr (.inr (.inr (.inr (g3 kd)))))), ((ki 0), .inl (κ.2 0, 8, .inl (nA ((va_up iv r (va_up (iv r) e9 x9)) 0)))), ((ki 1), .inl (κ.2 0, 8, .inl (nA ((va_up iv r (va_up (iv r) e9 x9)) 1)))), ((ki 2), .inl (κ.2 0, 8, .inl (nA ((va_up iv r (va_up (iv r) e9 x9)) 2))))]) (Y := []) (b := 6) rfl rfl (by omega)) e9 (by first | assumption | omega) (by decide) (rowset3 (κ := κ) (cr := kd) (M := dv) (X := [(k0, .inr (0, [.ref k1, .ref k2])), (k1, .inl (κ.2 3, 3, .inr (.inr (.inr (.inr (g3 ki)))))), (k2, .inl (κ.2 3, 3, .inr (.inr (.inr (.inr (g3 kd)))))), ((ki 0), .inl (κ.2 0, 8, .inl (nA ((va_up iv r (va_up (iv r) e9 x9)) 0)))), ((ki 1), .inl (κ.2 0, 8, .inl (nA ((va_up iv r (va_up (iv r) e9 x9)) 1)))), ((ki 2), .inl (κ.2 0, 8, .inl (nA ((va_up iv r (va_up (iv r) e9 x9)) 2))))]) (Y := []) (b := 6) (j := r) (f := va_up (dv r) e9 (td + x9)) rfl rfl rfl (by omega)) dX0_put_29 rfl ?_
  exact g_retMv C hAe rfl (Nat.le_of_ble_eq_true rfl) (Nat.le_of_ble_eq_true rfl) (rfl) dX0_put_30

set_option maxHeartbeats 4000000 in
set_option maxRecDepth 100000 in
theorem kX0_drop (l : Launch) (κ : KK) (k0 : Nat) (k1 : Nat) (k2 : Nat) (ki : Nat → Nat) (kd : Nat → Nat) (iv : Nat → Nat → Nat) (dv : Nat → Nat → Nat) (r : Nat) (e9 : Nat) (hr : r < 3) (he : e9 < 8) : CMv l yX0_drop cX0_drop 3 none 1 0 0 κ [.ref k0, .int (nI r), .int (nI e9)] [(k0, .inr (0, [.ref k1, .ref k2])), (k1, .inl (κ.2 3, 3, .inr (.inr (.inr (.inr (g3 ki)))))), (k2, .inl (κ.2 3, 3, .inr (.inr (.inr (.inr (g3 kd)))))), ((ki 0), .inl (κ.2 0, 8, .inl (nA (iv 0)))), ((ki 1), .inl (κ.2 0, 8, .inl (nA (iv 1)))), ((ki 2), .inl (κ.2 0, 8, .inl (nA (iv 2)))), ((kd 0), .inl (κ.2 0, 8, .inl (nA (dv 0)))), ((kd 1), .inl (κ.2 0, 8, .inl (nA (dv 1)))), ((kd 2), .inl (κ.2 0, 8, .inl (nA (dv 2))))] (fun (vw_ : va_W) => vw_ = [(k0, .inr (0, [.ref k1, .ref k2])), (k1, .inl (κ.2 3, 3, .inr (.inr (.inr (.inr (g3 ki)))))), (k2, .inl (κ.2 3, 3, .inr (.inr (.inr (.inr (g3 kd)))))), ((ki 0), .inl (κ.2 0, 8, .inl (nA ((va_up iv r (va_up (iv r) e9 0)) 0)))), ((ki 1), .inl (κ.2 0, 8, .inl (nA ((va_up iv r (va_up (iv r) e9 0)) 1)))), ((ki 2), .inl (κ.2 0, 8, .inl (nA ((va_up iv r (va_up (iv r) e9 0)) 2)))), ((kd 0), .inl (κ.2 0, 8, .inl (nA (dv 0)))), ((kd 1), .inl (κ.2 0, 8, .inl (nA (dv 1)))), ((kd 2), .inl (κ.2 0, 8, .inl (nA (dv 2))))]) := by
  refine cmv_of RX0 rfl (by decide) (Nat.le_of_ble_eq_true rfl) ?_
  intro p e s m below meth c A C hAe hA hini
  refine g_lv (lv' := [(0, .ref k0), (1, .int (nI r)), (2, .int (nI e9))]) [0, 1, 2] rfl ?_
  refine g_aload_n (pc' := 1) C 0 dX0_drop_0 rfl rfl rfl ?_
  refine g_iload_n (pc' := 2) C 1 dX0_drop_1 rfl rfl rfl ?_
  refine g_iload_n (pc' := 3) C 2 dX0_drop_2 rfl rfl rfl ?_
  refine g_callP (pc' := 6) C lk_RX0_19 (kX0_hasRoom l κ k0 k1 k2 r e9 (by first | assumption | omega) (by first | assumption | omega)) 0 rfl rfl [0] rfl rfl (Nat.le_of_ble_eq_true rfl) ⟨Nat.le_of_ble_eq_true rfl, Nat.le_of_ble_eq_true rfl⟩ ⟨Nat.le_of_ble_eq_true rfl, Nat.le_of_ble_eq_true rfl⟩ rfl dX0_drop_3 rfl (fun r_3_1 h_3_1 => ?_)
  obtain rfl : r_3_1 = b2i true := h_3_1
  refine g_if_eqB (pc' := 9) (tgt := 18) C dX0_drop_6 (by decide) rfl (fun z => absurd z (by decide)) (fun _ => ?_)
  refine g_aload_n (pc' := 10) C 0 dX0_drop_9 rfl rfl rfl ?_
  refine g_get (pc' := 13) C fl_RX0_11_0 0 rfl rfl dX0_drop_10 rfl ?_
  refine g_iload_n (pc' := 14) C 1 dX0_drop_13 rfl rfl rfl ?_
  refine g_aald2 (pc' := 15) (b := (ki r)) C 1 rfl r (by first | assumption | omega) (by decide) (g3_at (by omega)) dX0_drop_14 rfl ?_
  refine g_iload_n (pc' := 16) C 2 dX0_drop_15 rfl rfl rfl ?_
  refine g_iconst (pc' := 17) (v := nI 0) C dX0_drop_16 (by decide) rfl ?_
  refine g_iastN (pc' := 18) (ws' := [(k0, .inr (0, [.ref k1, .ref k2])), (k1, .inl (κ.2 3, 3, .inr (.inr (.inr (.inr (g3 ki)))))), (k2, .inl (κ.2 3, 3, .inr (.inr (.inr (.inr (g3 kd)))))), ((ki 0), .inl (κ.2 0, 8, .inl (nA ((va_up iv r (va_up (iv r) e9 0)) 0)))), ((ki 1), .inl (κ.2 0, 8, .inl (nA ((va_up iv r (va_up (iv r) e9 0)) 1)))), ((ki 2), .inl (κ.2 0, 8, .inl (nA ((va_up iv r (va_up (iv r) e9 0)) 2)))), ((kd 0), .inl (κ.2 0, 8, .inl (nA (dv 0)))), ((kd 1), .inl (κ.2 0, 8, .inl (nA (dv 1)))), ((kd 2), .inl (κ.2 0, 8, .inl (nA (dv 2))))]) C (3 + r) (f := (iv r)) (row3 (κ := κ) (cr := ki) (M := iv) (X := [(k0, .inr (0, [.ref k1, .ref k2])), (k1, .inl (κ.2 3, 3, .inr (.inr (.inr (.inr (g3 ki)))))), (k2, .inl (κ.2 3, 3, .inr (.inr (.inr (.inr (g3 kd))))))]) (Y := [((kd 0), .inl (κ.2 0, 8, .inl (nA (dv 0)))), ((kd 1), .inl (κ.2 0, 8, .inl (nA (dv 1)))), ((kd 2), .inl (κ.2 0, 8, .inl (nA (dv 2))))]) (b := 3) rfl rfl (by omega)) e9 (by first | assumption | omega) (by decide) (rowset3 (κ := κ) (cr := ki) (M := iv) (X := [(k0, .inr (0, [.ref k1, .ref k2])), (k1, .inl (κ.2 3, 3, .inr (.inr (.inr (.inr (g3 ki)))))), (k2, .inl (κ.2 3, 3, .inr (.inr (.inr (.inr (g3 kd))))))]) (Y := [((kd 0), .inl (κ.2 0, 8, .inl (nA (dv 0)))), ((kd 1), .inl (κ.2 0, 8, .inl (nA (dv 1)))), ((kd 2), .inl (κ.2 0, 8, .inl (nA (dv 2))))]) (b := 3) (j := r) (f := va_up (iv r) e9 0) rfl rfl rfl (by omega)) dX0_drop_17 rfl ?_
  exact g_retMv C hAe rfl (Nat.le_of_ble_eq_true rfl) (Nat.le_of_ble_eq_true rfl) (rfl) dX0_drop_18

set_option maxHeartbeats 4000000 in
set_option maxRecDepth 100000 in
theorem kX0_countOf (l : Launch) (κ : KK) (k0 : Nat) (k1 : Nat) (k2 : Nat) (ki : Nat → Nat) (kd : Nat → Nat) (iv : Nat → Nat → Nat) (dv : Nat → Nat → Nat) (r : Nat) (hK : KW iv dv) (hr : r < 3) : CP l yX0_countOf cX0_countOf 4 (some .int) 3 κ [.ref k0, .int (nI r)] [(k0, .inr (0, [.ref k1, .ref k2])), (k1, .inl (κ.2 3, 3, .inr (.inr (.inr (.inr (g3 ki)))))), (k2, .inl (κ.2 3, 3, .inr (.inr (.inr (.inr (g3 kd)))))), ((ki 0), .inl (κ.2 0, 8, .inl (nA (iv 0)))), ((ki 1), .inl (κ.2 0, 8, .inl (nA (iv 1)))), ((ki 2), .inl (κ.2 0, 8, .inl (nA (iv 2)))), ((kd 0), .inl (κ.2 0, 8, .inl (nA (dv 0)))), ((kd 1), .inl (κ.2 0, 8, .inl (nA (dv 1)))), ((kd 2), .inl (κ.2 0, 8, .inl (nA (dv 2))))] (fun vr_ => vr_ = nI (ctC (iv r) 8)) := by
  refine cp_of RX0 rfl (by decide) (Nat.le_of_ble_eq_true rfl) ?_
  intro p e s m below meth c C
  refine g_lv (lv' := [(0, .ref k0), (1, .int (nI r))]) [0, 1] rfl ?_
  refine g_iconst (pc' := 1) (v := nI 0) C dX0_countOf_0 (by decide) rfl ?_
  refine g_istore_n (pc' := 2) (lv' := [(2, .int (nI 0)), (0, .ref k0), (1, .int (nI r))]) C dX0_countOf_1 rfl (by decide) rfl rfl ?_
  refine g_iconst (pc' := 3) (v := nI 0) C dX0_countOf_2 (by decide) rfl ?_
  refine g_istore_n (pc' := 4) (lv' := [(3, .int (nI 0)), (2, .int (nI 0)), (0, .ref k0), (1, .int (nI r))]) C dX0_countOf_3 rfl (by decide) rfl rfl ?_
  have lp_a : ∀ (fu_a : Nat) (i : Nat) (z : Nat), (i ≤ 8) → (z = ctC (iv r) i) → (8 - i) < fu_a → G p l e (rmv 3 0 0) s m ([.ref k0, .int (nI r)] : List Value).toArray below meth c κ 4 (JP s) [(k0, .inr (0, [.ref k1, .ref k2])), (k1, .inl (κ.2 3, 3, .inr (.inr (.inr (.inr (g3 ki)))))), (k2, .inl (κ.2 3, 3, .inr (.inr (.inr (.inr (g3 kd)))))), ((ki 0), .inl (κ.2 0, 8, .inl (nA (iv 0)))), ((ki 1), .inl (κ.2 0, 8, .inl (nA (iv 1)))), ((ki 2), .inl (κ.2 0, 8, .inl (nA (iv 2)))), ((kd 0), .inl (κ.2 0, 8, .inl (nA (dv 0)))), ((kd 1), .inl (κ.2 0, 8, .inl (nA (dv 1)))), ((kd 2), .inl (κ.2 0, 8, .inl (nA (dv 2))))] 0 0 (MQ below (vp_Si (fun vr_ => vr_ = nI (ctC (iv r) 8))) ([.ref k0, .int (nI r)] : List Value).toArray s 0 0 (fun _ => False)) 4 [(3, .int (nI i)), (2, .int (nI z)), (0, .ref k0), (1, .int (nI r))] [] := by
    intro fu_a
    induction fu_a with
    | zero => intro i z hi hz hmu; exact absurd hmu (Nat.not_lt_zero _)
    | succ fu_a ih_a =>
      intro i z hi hz hmu_a
      refine g_iload_n (pc' := 5) C 0 dX0_countOf_4 rfl rfl rfl ?_
      refine g_bipush (pc' := 7) (v := nI 8) C dX0_countOf_5 (by decide) rfl ?_
      refine g_icmp_geN (pc' := 10) (tgt := 28) C (by first | assumption | omega) (by first | assumption | omega) dX0_countOf_7 (by decide) rfl (fun c_7_1 => ?_) (fun c_7_1 => ?_)
      · refine g_iload_n (pc' := 29) C 1 dX0_countOf_28 rfl rfl rfl ?_
        exact g_retP C rfl rfl (show nI z = nI (ctC (iv r) 8) by have e : i = 8 := (by omega); subst e; rw [hz]) dX0_countOf_29
      · refine g_aload_n (pc' := 11) C 2 dX0_countOf_10 rfl rfl rfl ?_
        refine g_iload_n (pc' := 12) C 3 dX0_countOf_11 rfl rfl rfl ?_
        refine g_iload_n (pc' := 13) C 0 dX0_countOf_12 rfl rfl rfl ?_
        refine g_callP (pc' := 16) C lk_RX0_27 (kX0_has l κ k0 k1 k2 ki kd iv dv r i (by first | assumption | omega) (by first | assumption | omega) (by first | assumption | omega)) 0 rfl rfl [0, 1, 2, 3, 4, 5, 6, 7, 8] rfl rfl (Nat.le_of_ble_eq_true rfl) ⟨Nat.le_of_ble_eq_true rfl, Nat.le_of_ble_eq_true rfl⟩ ⟨Nat.le_of_ble_eq_true rfl, Nat.le_of_ble_eq_true rfl⟩ rfl dX0_countOf_13 rfl (fun r_13_2 h_13_2 => ?_)
        obtain rfl : r_13_2 = b2i (decide (0 < iv r i)) := h_13_2
        refine g_if_eqB (pc' := 19) (tgt := 22) C dX0_countOf_16 (by decide) rfl (fun c_16_3 => ?_) (fun c_16_3 => ?_)
        · refine g_iinc (pc' := 25) (v := nI (i + 1)) (lv' := [(3, .int (nI (i + 1))), (2, .int (nI z)), (0, .ref k0), (1, .int (nI r))]) C 0 dX0_countOf_22 rfl (iincN1 _) (by decide) rfl rfl ?_
          refine g_goto (tgt := 4) C dX0_countOf_25 (by decide) ?_
          exact ih_a (i + 1) z (by first | assumption | omega) (by rw [ctC, if_neg (by simpa using c_16_3), hz]; rfl) (by omega)
        · refine g_iinc (pc' := 22) (v := nI (z + 1)) (lv' := [(2, .int (nI (z + 1))), (3, .int (nI i)), (0, .ref k0), (1, .int (nI r))]) C 1 dX0_countOf_19 rfl (iincN1 _) (by decide) rfl rfl ?_
          refine g_iinc (pc' := 25) (v := nI (i + 1)) (lv' := [(3, .int (nI (i + 1))), (2, .int (nI (z + 1))), (0, .ref k0), (1, .int (nI r))]) C 1 dX0_countOf_22 rfl (iincN1 _) (by decide) rfl rfl ?_
          refine g_goto (tgt := 4) C dX0_countOf_25 (by decide) ?_
          exact ih_a (i + 1) (z + 1) (by first | assumption | omega) (by rw [ctC, if_pos (by simpa using c_16_3), hz]) (by omega)
  exact lp_a 9 0 0 (Nat.zero_le _) rfl (by omega)

set_option maxHeartbeats 4000000 in
set_option maxRecDepth 100000 in
theorem kX0_firstOf (l : Launch) (κ : KK) (k0 : Nat) (k1 : Nat) (k2 : Nat) (ki : Nat → Nat) (kd : Nat → Nat) (iv : Nat → Nat → Nat) (dv : Nat → Nat → Nat) (r : Nat) (hK : KW iv dv) (hr : r < 3) : CP l yX0_firstOf cX0_firstOf 4 (some .int) 3 κ [.ref k0, .int (nI r)] [(k0, .inr (0, [.ref k1, .ref k2])), (k1, .inl (κ.2 3, 3, .inr (.inr (.inr (.inr (g3 ki)))))), (k2, .inl (κ.2 3, 3, .inr (.inr (.inr (.inr (g3 kd)))))), ((ki 0), .inl (κ.2 0, 8, .inl (nA (iv 0)))), ((ki 1), .inl (κ.2 0, 8, .inl (nA (iv 1)))), ((ki 2), .inl (κ.2 0, 8, .inl (nA (iv 2)))), ((kd 0), .inl (κ.2 0, 8, .inl (nA (dv 0)))), ((kd 1), .inl (κ.2 0, 8, .inl (nA (dv 1)))), ((kd 2), .inl (κ.2 0, 8, .inl (nA (dv 2))))] (fun vr_ => vr_ = oI (fsC (iv r) (dv r) 8)) := by
  refine cp_of RX0 rfl (by decide) (Nat.le_of_ble_eq_true rfl) ?_
  intro p e s m below meth c C
  refine g_lv (lv' := [(0, .ref k0), (1, .int (nI r))]) [0, 1] rfl ?_
  refine g_iconst (pc' := 1) (v := (-1)) C dX0_firstOf_0 (by decide) rfl ?_
  refine g_istore_n (pc' := 2) (lv' := [(2, .int (-1)), (0, .ref k0), (1, .int (nI r))]) C dX0_firstOf_1 rfl (by decide) rfl rfl ?_
  refine g_iconst (pc' := 3) (v := nI 0) C dX0_firstOf_2 (by decide) rfl ?_
  refine g_istore_n (pc' := 4) (lv' := [(3, .int (nI 0)), (2, .int (-1)), (0, .ref k0), (1, .int (nI r))]) C dX0_firstOf_3 rfl (by decide) rfl rfl ?_
  have lp_a : ∀ (fu_a : Nat) (i : Nat) (o : Option Nat), (i ≤ 8) → (o = fsC (iv r) (dv r) i) → (8 - i) < fu_a → G p l e (rmv 3 0 0) s m ([.ref k0, .int (nI r)] : List Value).toArray below meth c κ 4 (JP s) [(k0, .inr (0, [.ref k1, .ref k2])), (k1, .inl (κ.2 3, 3, .inr (.inr (.inr (.inr (g3 ki)))))), (k2, .inl (κ.2 3, 3, .inr (.inr (.inr (.inr (g3 kd)))))), ((ki 0), .inl (κ.2 0, 8, .inl (nA (iv 0)))), ((ki 1), .inl (κ.2 0, 8, .inl (nA (iv 1)))), ((ki 2), .inl (κ.2 0, 8, .inl (nA (iv 2)))), ((kd 0), .inl (κ.2 0, 8, .inl (nA (dv 0)))), ((kd 1), .inl (κ.2 0, 8, .inl (nA (dv 1)))), ((kd 2), .inl (κ.2 0, 8, .inl (nA (dv 2))))] 0 0 (MQ below (vp_Si (fun vr_ => vr_ = oI (fsC (iv r) (dv r) 8))) ([.ref k0, .int (nI r)] : List Value).toArray s 0 0 (fun _ => False)) 4 [(3, .int (nI i)), (2, .int (oI o)), (0, .ref k0), (1, .int (nI r))] [] := by
    intro fu_a
    induction fu_a with
    | zero => intro i o hi ho hmu; exact absurd hmu (Nat.not_lt_zero _)
    | succ fu_a ih_a =>
      intro i o hi ho hmu_a
      refine g_iload_n (pc' := 5) C 0 dX0_firstOf_4 rfl rfl rfl ?_
      refine g_bipush (pc' := 7) (v := nI 8) C dX0_firstOf_5 (by decide) rfl ?_
      refine g_icmp_geN (pc' := 10) (tgt := 51) C (by first | assumption | omega) (by first | assumption | omega) dX0_firstOf_7 (by decide) rfl (fun c_7_1 => ?_) (fun c_7_1 => ?_)
      · refine g_iload_n (pc' := 52) C 1 dX0_firstOf_51 rfl rfl rfl ?_
        exact g_retP C rfl rfl (show oI o = oI (fsC (iv r) (dv r) 8) by have e : i = 8 := (by omega); subst e; rw [ho]) dX0_firstOf_52
      · refine g_aload_n (pc' := 11) C 2 dX0_firstOf_10 rfl rfl rfl ?_
        refine g_iload_n (pc' := 12) C 3 dX0_firstOf_11 rfl rfl rfl ?_
        refine g_iload_n (pc' := 13) C 0 dX0_firstOf_12 rfl rfl rfl ?_
        refine g_callP (pc' := 16) C lk_RX0_27 (kX0_has l κ k0 k1 k2 ki kd iv dv r i (by first | assumption | omega) (by first | assumption | omega) (by first | assumption | omega)) 0 rfl rfl [0, 1, 2, 3, 4, 5, 6, 7, 8] rfl rfl (Nat.le_of_ble_eq_true rfl) ⟨Nat.le_of_ble_eq_true rfl, Nat.le_of_ble_eq_true rfl⟩ ⟨Nat.le_of_ble_eq_true rfl, Nat.le_of_ble_eq_true rfl⟩ rfl dX0_firstOf_13 rfl (fun r_13_2 h_13_2 => ?_)
        obtain rfl : r_13_2 = b2i (decide (0 < iv r i)) := h_13_2
        refine g_if_eqB (pc' := 19) (tgt := 45) C dX0_firstOf_16 (by decide) rfl (fun c_16_3 => ?_) (fun c_16_3 => ?_)
        · refine g_iinc (pc' := 48) (v := nI (i + 1)) (lv' := [(3, .int (nI (i + 1))), (2, .int (oI o)), (0, .ref k0), (1, .int (nI r))]) C 0 dX0_firstOf_45 rfl (iincN1 _) (by decide) rfl rfl ?_
          refine g_goto (tgt := 4) C dX0_firstOf_48 (by decide) ?_
          exact ih_a (i + 1) o (by first | assumption | omega) (by have h9 : ¬ 0 < iv r i := (by simpa using c_16_3); rw [fsC, ← ho]; cases o <;> simp [h9]) (by omega)
        · refine g_iload_n (pc' := 20) C 1 dX0_firstOf_19 rfl rfl rfl ?_
          refine g_iconst (pc' := 21) (v := (-1)) C dX0_firstOf_20 (by decide) rfl ?_
          refine g_icmp_eqO (pc' := 24) (tgt := 43) C (fun h q => by rw [ho] at q; have := fsC_lt q; omega) dX0_firstOf_21 (by decide) rfl (fun c_21_4 => ?_) (fun v_21_4 c_21_4 => ?_)
          · refine g_iload_n (pc' := 44) C 0 dX0_firstOf_43 rfl rfl rfl ?_
            refine g_istore_n (pc' := 45) (lv' := [(2, .int (nI i)), (3, .int (nI i)), (0, .ref k0), (1, .int (nI r))]) C dX0_firstOf_44 rfl (by decide) rfl rfl ?_
            refine g_iinc (pc' := 48) (v := nI (i + 1)) (lv' := [(3, .int (nI (i + 1))), (2, .int (nI i)), (0, .ref k0), (1, .int (nI r))]) C 1 dX0_firstOf_45 rfl (iincN1 _) (by decide) rfl rfl ?_
            refine g_goto (tgt := 4) C dX0_firstOf_48 (by decide) ?_
            exact ih_a (i + 1) (some i) (by first | assumption | omega) (by have h9 : 0 < iv r i := (by simpa using c_16_3); rw [fsC, ← ho, c_21_4]; simp [h9]) (by omega)
          · refine g_aload_n (pc' := 25) C 2 dX0_firstOf_24 rfl rfl rfl ?_
            refine g_get (pc' := 28) C fl_RX0_16_0 0 rfl rfl dX0_firstOf_25 rfl ?_
            refine g_iload_n (pc' := 29) C 3 dX0_firstOf_28 rfl rfl rfl ?_
            refine g_aald2 (pc' := 30) (b := (kd r)) C 2 rfl r (by first | assumption | omega) (by decide) (g3_at (by omega)) dX0_firstOf_29 rfl ?_
            refine g_iload_n (pc' := 31) C 0 dX0_firstOf_30 rfl rfl rfl ?_
            refine g_ialdN (pc' := 32) C (6 + r) (f := (dv r)) (row3 (κ := κ) (cr := kd) (M := dv) (X := [(k0, .inr (0, [.ref k1, .ref k2])), (k1, .inl (κ.2 3, 3, .inr (.inr (.inr (.inr (g3 ki)))))), (k2, .inl (κ.2 3, 3, .inr (.inr (.inr (.inr (g3 kd)))))), ((ki 0), .inl (κ.2 0, 8, .inl (nA (iv 0)))), ((ki 1), .inl (κ.2 0, 8, .inl (nA (iv 1)))), ((ki 2), .inl (κ.2 0, 8, .inl (nA (iv 2))))]) (Y := []) (b := 6) rfl rfl (by omega)) i (by first | assumption | omega) (by decide) dX0_firstOf_31 rfl ?_
            refine g_aload_n (pc' := 33) C 2 dX0_firstOf_32 rfl rfl rfl ?_
            refine g_get (pc' := 36) C fl_RX0_16_0 0 rfl rfl dX0_firstOf_33 rfl ?_
            refine g_iload_n (pc' := 37) C 3 dX0_firstOf_36 rfl rfl rfl ?_
            refine g_aald2 (pc' := 38) (b := (kd r)) C 2 rfl r (by first | assumption | omega) (by decide) (g3_at (by omega)) dX0_firstOf_37 rfl ?_
            refine g_iload_n (pc' := 39) C 1 dX0_firstOf_38 rfl rfl rfl ?_
            refine g_val (y := nI v_21_4) (by rw [c_21_4]; rfl) ?_
            refine g_ialdN (pc' := 40) C (6 + r) (f := (dv r)) (row3 (κ := κ) (cr := kd) (M := dv) (X := [(k0, .inr (0, [.ref k1, .ref k2])), (k1, .inl (κ.2 3, 3, .inr (.inr (.inr (.inr (g3 ki)))))), (k2, .inl (κ.2 3, 3, .inr (.inr (.inr (.inr (g3 kd)))))), ((ki 0), .inl (κ.2 0, 8, .inl (nA (iv 0)))), ((ki 1), .inl (κ.2 0, 8, .inl (nA (iv 1)))), ((ki 2), .inl (κ.2 0, 8, .inl (nA (iv 2))))]) (Y := []) (b := 6) rfl rfl (by omega)) v_21_4 (by have q := c_21_4; rw [ho] at q; have := fsC_lt q; omega) (by decide) dX0_firstOf_39 rfl ?_
            refine g_icmp_geN (pc' := 43) (tgt := 45) C (by have := (hK r i).2; omega) (by have := (hK r v_21_4).2; omega) dX0_firstOf_40 (by decide) rfl (fun c_40_5 => ?_) (fun c_40_5 => ?_)
            · refine g_iinc (pc' := 48) (v := nI (i + 1)) (lv' := [(3, .int (nI (i + 1))), (2, .int (oI o)), (0, .ref k0), (1, .int (nI r))]) C 0 dX0_firstOf_45 rfl (iincN1 _) (by decide) rfl rfl ?_
              refine g_goto (tgt := 4) C dX0_firstOf_48 (by decide) ?_
              exact ih_a (i + 1) o (by first | assumption | omega) (by have h9 : 0 < iv r i := (by simpa using c_16_3); rw [fsC, ← ho, c_21_4]; simp; omega) (by omega)
            · refine g_iload_n (pc' := 44) C 0 dX0_firstOf_43 rfl rfl rfl ?_
              refine g_istore_n (pc' := 45) (lv' := [(2, .int (nI i)), (3, .int (nI i)), (0, .ref k0), (1, .int (nI r))]) C dX0_firstOf_44 rfl (by decide) rfl rfl ?_
              refine g_iinc (pc' := 48) (v := nI (i + 1)) (lv' := [(3, .int (nI (i + 1))), (2, .int (nI i)), (0, .ref k0), (1, .int (nI r))]) C 1 dX0_firstOf_45 rfl (iincN1 _) (by decide) rfl rfl ?_
              refine g_goto (tgt := 4) C dX0_firstOf_48 (by decide) ?_
              exact ih_a (i + 1) (some i) (by first | assumption | omega) (by have h9 : 0 < iv r i := (by simpa using c_16_3); rw [fsC, ← ho, c_21_4]; simp; omega) (by omega)
  exact lp_a 9 0 none (Nat.zero_le _) rfl (by omega)
