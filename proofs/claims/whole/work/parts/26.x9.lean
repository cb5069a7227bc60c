set_option maxHeartbeats 4000000 in
set_option maxRecDepth 100000 in
theorem kX9_in_g (l : Launch) (κ : KK) (p0 : Int32) (hi9 : Int) (hh : -1 ≤ hi9 ∧ hi9 ≤ 1000) : CP l yX9_in cX9_in 3 (some .boolean) 0 κ [.int p0, .int (nI 0), .int (zI hi9)] [] (fun vr_ => vr_ = b2i (inZ 0 hi9 p0)) := by
  refine cp_of RX9 rfl (by decide) (Nat.le_of_ble_eq_true rfl) ?_
  intro p e s m below meth c C
  refine g_lv (lv' := [(0, .int p0), (1, .int (nI 0)), (2, .int (zI hi9))]) [0, 1, 2] rfl ?_
  refine g_iload_n (pc' := 1) C 0 dX9_in_0 rfl rfl rfl ?_
  refine g_iload_n (pc' := 2) C 1 dX9_in_1 rfl rfl rfl ?_
  refine g_icmp_lt (pc' := 5) (tgt := 14) C dX9_in_2 (by decide) rfl (fun c_2_1 => ?_) (fun c_2_1 => ?_)
  · rw [z_lt (by decide)] at c_2_1
    refine g_iconst (pc' := 15) (v := nI 0) C dX9_in_14 (by decide) rfl ?_
    exact g_retP C rfl rfl (show nI 0 = b2i (inZ 0 hi9 p0) by exact bF (inZ_f (by omega))) dX9_in_15
  · rw [z_lt (by decide)] at c_2_1
    refine g_iload_n (pc' := 6) C 0 dX9_in_5 rfl rfl rfl ?_
    refine g_iload_n (pc' := 7) C 2 dX9_in_6 rfl rfl rfl ?_
    refine g_icmp_gt (pc' := 10) (tgt := 14) C dX9_in_7 (by decide) rfl (fun c_7_2 => ?_) (fun c_7_2 => ?_)
    · rw [z_gtZ (by first | assumption | omega)] at c_7_2
      refine g_iconst (pc' := 15) (v := nI 0) C dX9_in_14 (by decide) rfl ?_
      exact g_retP C rfl rfl (show nI 0 = b2i (inZ 0 hi9 p0) by exact bF (inZ_f (by omega))) dX9_in_15
    · rw [z_gtZ (by first | assumption | omega)] at c_7_2
      refine g_iconst (pc' := 11) (v := nI 1) C dX9_in_10 (by decide) rfl ?_
      refine g_goto (tgt := 15) C dX9_in_11 (by decide) ?_
      exact g_retP C rfl rfl (show nI 1 = b2i (inZ 0 hi9 p0) by exact bT (inZ_t (by omega) (by omega))) dX9_in_15

set_option maxHeartbeats 4000000 in
set_option maxRecDepth 100000 in
theorem kX9_in_0_2 (l : Launch) (κ : KK) (p0 : Int32) : CP l yX9_in cX9_in 3 (some .boolean) 0 κ [.int p0, .int (nI 0), .int (nI 2)] [] (fun vr_ => vr_ = b2i (inZ 0 2 p0)) := by
  refine cp_of RX9 rfl (by decide) (Nat.le_of_ble_eq_true rfl) ?_
  intro p e s m below meth c C
  refine g_lv (lv' := [(0, .int p0), (1, .int (nI 0)), (2, .int (nI 2))]) [0, 1, 2] rfl ?_
  refine g_iload_n (pc' := 1) C 0 dX9_in_0 rfl rfl rfl ?_
  refine g_iload_n (pc' := 2) C 1 dX9_in_1 rfl rfl rfl ?_
  refine g_icmp_lt (pc' := 5) (tgt := 14) C dX9_in_2 (by decide) rfl (fun c_2_1 => ?_) (fun c_2_1 => ?_)
  · rw [z_lt (by decide)] at c_2_1
    refine g_iconst (pc' := 15) (v := nI 0) C dX9_in_14 (by decide) rfl ?_
    exact g_retP C rfl rfl (show nI 0 = b2i (inZ 0 2 p0) by exact bF (inZ_f (by omega))) dX9_in_15
  · rw [z_lt (by decide)] at c_2_1
    refine g_iload_n (pc' := 6) C 0 dX9_in_5 rfl rfl rfl ?_
    refine g_iload_n (pc' := 7) C 2 dX9_in_6 rfl rfl rfl ?_
    refine g_icmp_gt (pc' := 10) (tgt := 14) C dX9_in_7 (by decide) rfl (fun c_7_2 => ?_) (fun c_7_2 => ?_)
    · rw [z_gt (by decide)] at c_7_2
      refine g_iconst (pc' := 15) (v := nI 0) C dX9_in_14 (by decide) rfl ?_
      exact g_retP C rfl rfl (show nI 0 = b2i (inZ 0 2 p0) by exact bF (inZ_f (by omega))) dX9_in_15
    · rw [z_gt (by decide)] at c_7_2
      refine g_iconst (pc' := 11) (v := nI 1) C dX9_in_10 (by decide) rfl ?_
      refine g_goto (tgt := 15) C dX9_in_11 (by decide) ?_
      exact g_retP C rfl rfl (show nI 1 = b2i (inZ 0 2 p0) by exact bT (inZ_t (by omega) (by omega))) dX9_in_15

set_option maxHeartbeats 4000000 in
set_option maxRecDepth 100000 in
theorem kX9_in_1_50 (l : Launch) (κ : KK) (p0 : Int32) : CP l yX9_in cX9_in 3 (some .boolean) 0 κ [.int p0, .int (nI 1), .int (nI 50)] [] (fun vr_ => vr_ = b2i (inZ 1 50 p0)) := by
  refine cp_of RX9 rfl (by decide) (Nat.le_of_ble_eq_true rfl) ?_
  intro p e s m below meth c C
  refine g_lv (lv' := [(0, .int p0), (1, .int (nI 1)), (2, .int (nI 50))]) [0, 1, 2] rfl ?_
  refine g_iload_n (pc' := 1) C 0 dX9_in_0 rfl rfl rfl ?_
  refine g_iload_n (pc' := 2) C 1 dX9_in_1 rfl rfl rfl ?_
  refine g_icmp_lt (pc' := 5) (tgt := 14) C dX9_in_2 (by decide) rfl (fun c_2_1 => ?_) (fun c_2_1 => ?_)
  · rw [z_lt (by decide)] at c_2_1
    refine g_iconst (pc' := 15) (v := nI 0) C dX9_in_14 (by decide) rfl ?_
    exact g_retP C rfl rfl (show nI 0 = b2i (inZ 1 50 p0) by exact bF (inZ_f (by omega))) dX9_in_15
  · rw [z_lt (by decide)] at c_2_1
    refine g_iload_n (pc' := 6) C 0 dX9_in_5 rfl rfl rfl ?_
    refine g_iload_n (pc' := 7) C 2 dX9_in_6 rfl rfl rfl ?_
    refine g_icmp_gt (pc' := 10) (tgt := 14) C dX9_in_7 (by decide) rfl (fun c_7_2 => ?_) (fun c_7_2 => ?_)
    · rw [z_gt (by decide)] at c_7_2
      refine g_iconst (pc' := 15) (v := nI 0) C dX9_in_14 (by decide) rfl ?_
      exact g_retP C rfl rfl (show nI 0 = b2i (inZ 1 50 p0) by exact bF (inZ_f (by omega))) dX9_in_15
    · rw [z_gt (by decide)] at c_7_2
      refine g_iconst (pc' := 11) (v := nI 1) C dX9_in_10 (by decide) rfl ?_
      refine g_goto (tgt := 15) C dX9_in_11 (by decide) ?_
      exact g_retP C rfl rfl (show nI 1 = b2i (inZ 1 50 p0) by exact bT (inZ_t (by omega) (by omega))) dX9_in_15

set_option maxHeartbeats 4000000 in
set_option maxRecDepth 100000 in
theorem kX9_in_0_99 (l : Launch) (κ : KK) (p0 : Int32) : CP l yX9_in cX9_in 3 (some .boolean) 0 κ [.int p0, .int (nI 0), .int (nI 99)] [] (fun vr_ => vr_ = b2i (inZ 0 99 p0)) := by
  refine cp_of RX9 rfl (by decide) (Nat.le_of_ble_eq_true rfl) ?_
  intro p e s m below meth c C
  refine g_lv (lv' := [(0, .int p0), (1, .int (nI 0)), (2, .int (nI 99))]) [0, 1, 2] rfl ?_
  refine g_iload_n (pc' := 1) C 0 dX9_in_0 rfl rfl rfl ?_
  refine g_iload_n (pc' := 2) C 1 dX9_in_1 rfl rfl rfl ?_
  refine g_icmp_lt (pc' := 5) (tgt := 14) C dX9_in_2 (by decide) rfl (fun c_2_1 => ?_) (fun c_2_1 => ?_)
  · rw [z_lt (by decide)] at c_2_1
    refine g_iconst (pc' := 15) (v := nI 0) C dX9_in_14 (by decide) rfl ?_
    exact g_retP C rfl rfl (show nI 0 = b2i (inZ 0 99 p0) by exact bF (inZ_f (by omega))) dX9_in_15
  · rw [z_lt (by decide)] at c_2_1
    refine g_iload_n (pc' := 6) C 0 dX9_in_5 rfl rfl rfl ?_
    refine g_iload_n (pc' := 7) C 2 dX9_in_6 rfl rfl rfl ?_
    refine g_icmp_gt (pc' := 10) (tgt := 14) C dX9_in_7 (by decide) rfl (fun c_7_2 => ?_) (fun c_7_2 => ?_)
    · rw [z_gt (by decide)] at c_7_2
      refine g_iconst (pc' := 15) (v := nI 0) C dX9_in_14 (by decide) rfl ?_
      exact g_retP C rfl rfl (show nI 0 = b2i (inZ 0 99 p0) by exact bF (inZ_f (by omega))) dX9_in_15
    · rw [z_gt (by decide)] at c_7_2
      refine g_iconst (pc' := 11) (v := nI 1) C dX9_in_10 (by decide) rfl ?_
      refine g_goto (tgt := 15) C dX9_in_11 (by decide) ?_
      exact g_retP C rfl rfl (show nI 1 = b2i (inZ 0 99 p0) by exact bT (inZ_t (by omega) (by omega))) dX9_in_15

set_option maxHeartbeats 4000000 in
set_option maxRecDepth 100000 in
theorem kX9_in_1_20 (l : Launch) (κ : KK) (p0 : Int32) : CP l yX9_in cX9_in 3 (some .boolean) 0 κ [.int p0, .int (nI 1), .int (nI 20)] [] (fun vr_ => vr_ = b2i (inZ 1 20 p0)) := by
  refine cp_of RX9 rfl (by decide) (Nat.le_of_ble_eq_true rfl) ?_
  intro p e s m below meth c C
  refine g_lv (lv' := [(0, .int p0), (1, .int (nI 1)), (2, .int (nI 20))]) [0, 1, 2] rfl ?_
  refine g_iload_n (pc' := 1) C 0 dX9_in_0 rfl rfl rfl ?_
  refine g_iload_n (pc' := 2) C 1 dX9_in_1 rfl rfl rfl ?_
  refine g_icmp_lt (pc' := 5) (tgt := 14) C dX9_in_2 (by decide) rfl (fun c_2_1 => ?_) (fun c_2_1 => ?_)
  · rw [z_lt (by decide)] at c_2_1
    refine g_iconst (pc' := 15) (v := nI 0) C dX9_in_14 (by decide) rfl ?_
    exact g_retP C rfl rfl (show nI 0 = b2i (inZ 1 20 p0) by exact bF (inZ_f (by omega))) dX9_in_15
  · rw [z_lt (by decide)] at c_2_1
    refine g_iload_n (pc' := 6) C 0 dX9_in_5 rfl rfl rfl ?_
    refine g_iload_n (pc' := 7) C 2 dX9_in_6 rfl rfl rfl ?_
    refine g_icmp_gt (pc' := 10) (tgt := 14) C dX9_in_7 (by decide) rfl (fun c_7_2 => ?_) (fun c_7_2 => ?_)
    · rw [z_gt (by decide)] at c_7_2
      refine g_iconst (pc' := 15) (v := nI 0) C dX9_in_14 (by decide) rfl ?_
      exact g_retP C rfl rfl (show nI 0 = b2i (inZ 1 20 p0) by exact bF (inZ_f (by omega))) dX9_in_15
    · rw [z_gt (by decide)] at c_7_2
      refine g_iconst (pc' := 11) (v := nI 1) C dX9_in_10 (by decide) rfl ?_
      refine g_goto (tgt := 15) C dX9_in_11 (by decide) ?_
      exact g_retP C rfl rfl (show nI 1 = b2i (inZ 1 20 p0) by exact bT (inZ_t (by omega) (by omega))) dX9_in_15

set_option maxHeartbeats 4000000 in
set_option maxRecDepth 100000 in
theorem kX9_in_0_4 (l : Launch) (κ : KK) (p0 : Int32) : CP l yX9_in cX9_in 3 (some .boolean) 0 κ [.int p0, .int (nI 0), .int (nI 4)] [] (fun vr_ => vr_ = b2i (inZ 0 4 p0)) := by
  refine cp_of RX9 rfl (by decide) (Nat.le_of_ble_eq_true rfl) ?_
  intro p e s m below meth c C
  refine g_lv (lv' := [(0, .int p0), (1, .int (nI 0)), (2, .int (nI 4))]) [0, 1, 2] rfl ?_
  refine g_iload_n (pc' := 1) C 0 dX9_in_0 rfl rfl rfl ?_
  refine g_iload_n (pc' := 2) C 1 dX9_in_1 rfl rfl rfl ?_
  refine g_icmp_lt (pc' := 5) (tgt := 14) C dX9_in_2 (by decide) rfl (fun c_2_1 => ?_) (fun c_2_1 => ?_)
  · rw [z_lt (by decide)] at c_2_1
    refine g_iconst (pc' := 15) (v := nI 0) C dX9_in_14 (by decide) rfl ?_
    exact g_retP C rfl rfl (show nI 0 = b2i (inZ 0 4 p0) by exact bF (inZ_f (by omega))) dX9_in_15
  · rw [z_lt (by decide)] at c_2_1
    refine g_iload_n (pc' := 6) C 0 dX9_in_5 rfl rfl rfl ?_
    refine g_iload_n (pc' := 7) C 2 dX9_in_6 rfl rfl rfl ?_
    refine g_icmp_gt (pc' := 10) (tgt := 14) C dX9_in_7 (by decide) rfl (fun c_7_2 => ?_) (fun c_7_2 => ?_)
    · rw [z_gt (by decide)] at c_7_2
      refine g_iconst (pc' := 15) (v := nI 0) C dX9_in_14 (by decide) rfl ?_
      exact g_retP C rfl rfl (show nI 0 = b2i (inZ 0 4 p0) by exact bF (inZ_f (by omega))) dX9_in_15
    · rw [z_gt (by decide)] at c_7_2
      refine g_iconst (pc' := 11) (v := nI 1) C dX9_in_10 (by decide) rfl ?_
      refine g_goto (tgt := 15) C dX9_in_11 (by decide) ?_
      exact g_retP C rfl rfl (show nI 1 = b2i (inZ 0 4 p0) by exact bT (inZ_t (by omega) (by omega))) dX9_in_15

set_option maxHeartbeats 4000000 in
set_option maxRecDepth 100000 in
theorem kX9_in_1_100 (l : Launch) (κ : KK) (p0 : Int32) : CP l yX9_in cX9_in 3 (some .boolean) 0 κ [.int p0, .int (nI 1), .int (nI 100)] [] (fun vr_ => vr_ = b2i (inZ 1 100 p0)) := by
  refine cp_of RX9 rfl (by decide) (Nat.le_of_ble_eq_true rfl) ?_
  intro p e s m below meth c C
  refine g_lv (lv' := [(0, .int p0), (1, .int (nI 1)), (2, .int (nI 100))]) [0, 1, 2] rfl ?_
  refine g_iload_n (pc' := 1) C 0 dX9_in_0 rfl rfl rfl ?_
  refine g_iload_n (pc' := 2) C 1 dX9_in_1 rfl rfl rfl ?_
  refine g_icmp_lt (pc' := 5) (tgt := 14) C dX9_in_2 (by decide) rfl (fun c_2_1 => ?_) (fun c_2_1 => ?_)
  · rw [z_lt (by decide)] at c_2_1
    refine g_iconst (pc' := 15) (v := nI 0) C dX9_in_14 (by decide) rfl ?_
    exact g_retP C rfl rfl (show nI 0 = b2i (inZ 1 100 p0) by exact bF (inZ_f (by omega))) dX9_in_15
  · rw [z_lt (by decide)] at c_2_1
    refine g_iload_n (pc' := 6) C 0 dX9_in_5 rfl rfl rfl ?_
    refine g_iload_n (pc' := 7) C 2 dX9_in_6 rfl rfl rfl ?_
    refine g_icmp_gt (pc' := 10) (tgt := 14) C dX9_in_7 (by decide) rfl (fun c_7_2 => ?_) (fun c_7_2 => ?_)
    · rw [z_gt (by decide)] at c_7_2
      refine g_iconst (pc' := 15) (v := nI 0) C dX9_in_14 (by decide) rfl ?_
      exact g_retP C rfl rfl (show nI 0 = b2i (inZ 1 100 p0) by exact bF (inZ_f (by omega))) dX9_in_15
    · rw [z_gt (by decide)] at c_7_2
      refine g_iconst (pc' := 11) (v := nI 1) C dX9_in_10 (by decide) rfl ?_
      refine g_goto (tgt := 15) C dX9_in_11 (by decide) ?_
      exact g_retP C rfl rfl (show nI 1 = b2i (inZ 1 100 p0) by exact bT (inZ_t (by omega) (by omega))) dX9_in_15

set_option maxHeartbeats 4000000 in
set_option maxRecDepth 100000 in
theorem kX9_thrown (l : Launch) (κ : KK) (u0 : Nat) (u1 : Nat) (u2 : Nat) (u3 : Nat) (u4 : Nat) (u5 : Nat) (u6 : Nat) (u7 : Nat) (u8 : Nat) (u9 : Nat) (ua : Nat) (ub : Nat) (uc : Nat) (ud : Nat) (ue : Nat) (uf : Nat) (ug : Nat) (t9 : Nat) (n : Nat) (ds : Nat) (mc : Nat) (len : Nat) (ba : Nat) (sm : Nat) (dy : Nat) : CP l yX9_thrown cX9_thrown 1 (some .int) 0 κ [.ref u0] [(u0, .inr (8, [.int (nI t9), .int (nI n), .ref u1, .ref u2, .int (nI ds), .ref u3, .int (nI mc), .ref u4, .ref u5, .ref u6, .ref u7, .ref u8, .int (nI len), .ref u9, .int (nI ba), .int (nI sm), .ref ua, .ref ub, .ref uc, .ref ud, .ref ue, .int (nI dy), .ref uf, .ref ug]))] (fun vr_ => vr_ = nI t9) := by
  refine cp_of RX9 rfl (by decide) (Nat.le_of_ble_eq_true rfl) ?_
  intro p e s m below meth c C
  refine g_lv (lv' := [(0, .ref u0)]) [0] rfl ?_
  refine g_aload_n (pc' := 1) C 0 dX9_thrown_0 rfl rfl rfl ?_
  refine g_get (pc' := 4) C fl_RX9_63_8 0 rfl rfl dX9_thrown_1 rfl ?_
  exact g_retP C rfl rfl (show nI t9 = nI t9 by rfl) dX9_thrown_4

set_option maxHeartbeats 4000000 in
set_option maxRecDepth 100000 in
theorem kX9_fails (l : Launch) (κ : KK) (u0 : Nat) (u1 : Nat) (u2 : Nat) (u3 : Nat) (u4 : Nat) (u5 : Nat) (u6 : Nat) (u7 : Nat) (u8 : Nat) (u9 : Nat) (ua : Nat) (ub : Nat) (uc : Nat) (ud : Nat) (ue : Nat) (uf : Nat) (ug : Nat) (t9 : Nat) (n : Nat) (ds : Nat) (mc : Nat) (len : Nat) (ba : Nat) (sm : Nat) (dy : Nat) (cd : Nat) : CMi l yX9_fails cX9_fails 2 (some .int) 0 0 0 κ [.ref u0, .int (nI cd)] [(u0, .inr (8, [.int (nI t9), .int (nI n), .ref u1, .ref u2, .int (nI ds), .ref u3, .int (nI mc), .ref u4, .ref u5, .ref u6, .ref u7, .ref u8, .int (nI len), .ref u9, .int (nI ba), .int (nI sm), .ref ua, .ref ub, .ref uc, .ref ud, .ref ue, .int (nI dy), .ref uf, .ref ug]))] (fun (vr_ : Int32) (vw_ : va_W) => vr_ = nI 0 ∧ vw_ = [(u0, .inr (8, [.int (nI cd), .int (nI n), .ref u1, .ref u2, .int (nI ds), .ref u3, .int (nI mc), .ref u4, .ref u5, .ref u6, .ref u7, .ref u8, .int (nI len), .ref u9, .int (nI ba), .int (nI sm), .ref ua, .ref ub, .ref uc, .ref ud, .ref ue, .int (nI dy), .ref uf, .ref ug]))]) := by
  refine cmi_of RX9 rfl (by decide) (Nat.le_of_ble_eq_true rfl) ?_
  intro p e s m below meth c A C hAe hA hini
  refine g_lv (lv' := [(0, .ref u0), (1, .int (nI cd))]) [0, 1] rfl ?_
  refine g_aload_n (pc' := 1) C 0 dX9_fails_0 rfl rfl rfl ?_
  refine g_iload_n (pc' := 2) C 1 dX9_fails_1 rfl rfl rfl ?_
  refine g_put (pc' := 5) (ws' := [(u0, .inr (8, [.int (nI cd), .int (nI n), .ref u1, .ref u2, .int (nI ds), .ref u3, .int (nI mc), .ref u4, .ref u5, .ref u6, .ref u7, .ref u8, .int (nI len), .ref u9, .int (nI ba), .int (nI sm), .ref ua, .ref ub, .ref uc, .ref ud, .ref ue, .int (nI dy), .ref uf, .ref ug]))]) C fp_RX9_63_8 0 rfl rfl rfl (Nat.le_of_ble_eq_true rfl) rfl dX9_fails_2 rfl ?_
  refine g_iconst (pc' := 6) (v := nI 0) C dX9_fails_5 (by decide) rfl ?_
  exact g_retMi C hAe rfl rfl (Nat.le_of_ble_eq_true rfl) (Nat.le_of_ble_eq_true rfl) (⟨rfl, rfl⟩) dX9_fails_6

set_option maxHeartbeats 4000000 in
set_option maxRecDepth 100000 in
theorem kX9_isWord (l : Launch) (κ : KK) (p0 : Int32) : CP l yX9_isWord cX9_isWord 1 (some .boolean) 1 κ [.int p0] [] (fun vr_ => vr_ = b2i (inZ 0 99 p0)) := by
  refine cp_of RX9 rfl (by decide) (Nat.le_of_ble_eq_true rfl) ?_
  intro p e s m below meth c C
  refine g_lv (lv' := [(0, .int p0)]) [0] rfl ?_
  refine g_iload_n (pc' := 1) C 0 dX9_isWord_0 rfl rfl rfl ?_
  refine g_iconst (pc' := 2) (v := nI 0) C dX9_isWord_1 (by decide) rfl ?_
  refine g_bipush (pc' := 4) (v := nI 99) C dX9_isWord_2 (by decide) rfl ?_
  refine g_callPS (pc' := 7) C lk_RX9_66 (kX9_in_0_99 l κ p0) [] rfl rfl (Nat.le_of_ble_eq_true rfl) ⟨Nat.le_of_ble_eq_true rfl, Nat.le_of_ble_eq_true rfl⟩ ⟨Nat.le_of_ble_eq_true rfl, Nat.le_of_ble_eq_true rfl⟩ rfl dX9_isWord_4 rfl (fun r_4_1 h_4_1 => ?_)
  obtain rfl : r_4_1 = b2i (inZ 0 99 p0) := h_4_1
  exact g_retP C rfl (nar_b2i _) (show b2i (inZ 0 99 p0) = b2i (inZ 0 99 p0) by rfl) dX9_isWord_7

set_option maxHeartbeats 4000000 in
set_option maxRecDepth 100000 in
theorem kX9_isEntry (l : Launch) (κ : KK) (u0 : Nat) (u1 : Nat) (u2 : Nat) (u3 : Nat) (u4 : Nat) (u5 : Nat) (u6 : Nat) (u7 : Nat) (u8 : Nat) (u9 : Nat) (ua : Nat) (ub : Nat) (uc : Nat) (ud : Nat) (ue : Nat) (uf : Nat) (ug : Nat) (t9 : Nat) (n : Nat) (ds : Nat) (mc : Nat) (len : Nat) (ba : Nat) (sm : Nat) (dy : Nat) (th : Nat → Bool) (p0 : Int32) (hm : mc ≤ 8) (hth : ∀ e, th e = true → e < mc) : CP l yX9_isEntry cX9_isEntry 2 (some .boolean) 1 κ [.ref u0, .int p0] [(u0, .inr (8, [.int (nI t9), .int (nI n), .ref u1, .ref u2, .int (nI ds), .ref u3, .int (nI mc), .ref u4, .ref u5, .ref u6, .ref u7, .ref u8, .int (nI len), .ref u9, .int (nI ba), .int (nI sm), .ref ua, .ref ub, .ref uc, .ref ud, .ref ue, .int (nI dy), .ref uf, .ref ug])), (u4, .inl (κ.2 1, 8, .inl (zA th)))] (fun vr_ => vr_ = b2i (isE th p0)) := by
  refine cp_of RX9 rfl (by decide) (Nat.le_of_ble_eq_true rfl) ?_
  intro p e s m below meth c C
  refine g_lv (lv' := [(0, .ref u0), (1, .int p0)]) [0, 1] rfl ?_
  refine g_iload_n (pc' := 1) C 1 dX9_isEntry_0 rfl rfl rfl ?_
  refine g_iconst (pc' := 2) (v := nI 0) C dX9_isEntry_1 (by decide) rfl ?_
  refine g_aload_n (pc' := 3) C 0 dX9_isEntry_2 rfl rfl rfl ?_
  refine g_get (pc' := 6) C fl_RX9_70_8 0 rfl rfl dX9_isEntry_3 rfl ?_
  refine g_iconst (pc' := 7) (v := nI 1) C dX9_isEntry_6 (by decide) rfl ?_
  refine g_isub (pc' := 8) (v := zI ((mc : Int) - 1)) C dX9_isEntry_7 (nZ_sub _ _) rfl ?_
  refine g_callPS (pc' := 11) C lk_RX9_66 (kX9_in_g l κ p0 ((mc : Int) - 1) (by constructor <;> omega)) [] rfl rfl (Nat.le_of_ble_eq_true rfl) ⟨Nat.le_of_ble_eq_true rfl, Nat.le_of_ble_eq_true rfl⟩ ⟨Nat.le_of_ble_eq_true rfl, Nat.le_of_ble_eq_true rfl⟩ rfl dX9_isEntry_8 rfl (fun r_8_1 h_8_1 => ?_)
  obtain rfl : r_8_1 = b2i (inZ 0 ((mc : Int) - 1) p0) := h_8_1
  refine g_if_eqB (pc' := 14) (tgt := 27) C dX9_isEntry_11 (by decide) rfl (fun c_11_2 => ?_) (fun c_11_2 => ?_)
  · refine g_iconst (pc' := 28) (v := nI 0) C dX9_isEntry_27 (by decide) rfl ?_
    exact g_retP C rfl rfl (show nI 0 = b2i (isE th p0) by exact bF (isE_out hth c_11_2)) dX9_isEntry_28
  · obtain ⟨w9, -, hw9, rfl⟩ := inZ_w c_11_2 (by decide)
    refine g_aload_n (pc' := 15) C 0 dX9_isEntry_14 rfl rfl rfl ?_
    refine g_get (pc' := 18) C fl_RX9_19_8 0 rfl rfl dX9_isEntry_15 rfl ?_
    refine g_iload_n (pc' := 19) C 1 dX9_isEntry_18 rfl rfl rfl ?_
    refine g_zaldB (pc' := 20) C 1 (f := th) rfl w9 (by first | assumption | omega) (by decide) dX9_isEntry_19 rfl ?_
    refine g_if_eqB (pc' := 23) (tgt := 27) C dX9_isEntry_20 (by decide) rfl (fun c_20_3 => ?_) (fun c_20_3 => ?_)
    · refine g_iconst (pc' := 28) (v := nI 0) C dX9_isEntry_27 (by decide) rfl ?_
      exact g_retP C rfl rfl (show nI 0 = b2i (isE th (nI w9)) by exact bF (by rw [isE_nI (by omega)]; exact c_20_3)) dX9_isEntry_28
    · refine g_iconst (pc' := 24) (v := nI 1) C dX9_isEntry_23 (by decide) rfl ?_
      refine g_goto (tgt := 28) C dX9_isEntry_24 (by decide) ?_
      exact g_retP C rfl rfl (show nI 1 = b2i (isE th (nI w9)) by exact bT (by rw [isE_nI (by omega)]; exact c_20_3)) dX9_isEntry_28

set_option maxHeartbeats 4000000 in
set_option maxRecDepth 100000 in
theorem kX9_addRule (l : Launch) (κ : KK) (u0 : Nat) (u1 : Nat) (u2 : Nat) (u3 : Nat) (u4 : Nat) (u5 : Nat) (u6 : Nat) (u7 : Nat) (u8 : Nat) (u9 : Nat) (ua : Nat) (ub : Nat) (uc : Nat) (ud : Nat) (ue : Nat) (uf : Nat) (ug : Nat) (t9 : Nat) (n : Nat) (ds : Nat) (mc : Nat) (len : Nat) (ba : Nat) (sm : Nat) (dy : Nat) (fk : Nat → Nat) (fs : Nat → Nat) (p0 : Int32) (p1 : Int32) (hn : n ≤ 6) : CMi l yX9_addRule cX9_addRule 3 (some .int) 2 0 0 κ [.ref u0, .int p0, .int p1] [(u0, .inr (8, [.int (nI t9), .int (nI n), .ref u1, .ref u2, .int (nI ds), .ref u3, .int (nI mc), .ref u4, .ref u5, .ref u6, .ref u7, .ref u8, .int (nI len), .ref u9, .int (nI ba), .int (nI sm), .ref ua, .ref ub, .ref uc, .ref ud, .ref ue, .int (nI dy), .ref uf, .ref ug])), (u1, .inl (κ.2 0, 6, .inl (nA fk))), (u2, .inl (κ.2 0, 6, .inl (nA fs)))] (fun (vr_ : Int32) (vw_ : va_W) => vr_ = nI (if c_addRule p0 p1 n = 0 then n else 0) ∧ vw_ = [(u0, .inr (8, [.int (nI (c_addRule p0 p1 n)), .int (nI (if c_addRule p0 p1 n = 0 then n + 1 else n)), .ref u1, .ref u2, .int (nI ds), .ref u3, .int (nI mc), .ref u4, .ref u5, .ref u6, .ref u7, .ref u8, .int (nI len), .ref u9, .int (nI ba), .int (nI sm), .ref ua, .ref ub, .ref uc, .ref ud, .ref ue, .int (nI dy), .ref uf, .ref ug])), (u1, .inl (κ.2 0, 6, .inl (nA (if c_addRule p0 p1 n = 0 then va_up fk n (n9 p0) else fk)))), (u2, .inl (κ.2 0, 6, .inl (nA (if c_addRule p0 p1 n = 0 then va_up fs n (n9 p1) else fs))))]) := by
  refine cmi_of RX9 rfl (by decide) (Nat.le_of_ble_eq_true rfl) ?_
  intro p e s m below meth c A C hAe hA hini
  refine g_lv (lv' := [(0, .ref u0), (1, .int p0), (2, .int p1)]) [0, 1, 2] rfl ?_
  refine g_aload_n (pc' := 1) C 0 dX9_addRule_0 rfl rfl rfl ?_
  refine g_iload_n (pc' := 2) C 1 dX9_addRule_1 rfl rfl rfl ?_
  refine g_iconst (pc' := 3) (v := nI 0) C dX9_addRule_2 (by decide) rfl ?_
  refine g_iconst (pc' := 4) (v := nI 2) C dX9_addRule_3 (by decide) rfl ?_
  refine g_callPS (pc' := 7) C lk_RX9_66 (kX9_in_0_2 l κ p0) [] rfl rfl (Nat.le_of_ble_eq_true rfl) ⟨Nat.le_of_ble_eq_true rfl, Nat.le_of_ble_eq_true rfl⟩ ⟨Nat.le_of_ble_eq_true rfl, Nat.le_of_ble_eq_true rfl⟩ rfl dX9_addRule_4 rfl (fun r_4_1 h_4_1 => ?_)
  obtain rfl : r_4_1 = b2i (inZ 0 2 p0) := h_4_1
  refine g_if_eqB (pc' := 10) (tgt := 20) C dX9_addRule_7 (by decide) rfl (fun c_7_2 => ?_) (fun c_7_2 => ?_)
  · refine g_iconst (pc' := 21) (v := nI 1) C dX9_addRule_20 (by decide) rfl ?_
    refine g_goto (tgt := 38) C dX9_addRule_21 (by decide) ?_
    refine g_put (pc' := 41) (ws' := [(u0, .inr (8, [.int (nI 1), .int (nI n), .ref u1, .ref u2, .int (nI ds), .ref u3, .int (nI mc), .ref u4, .ref u5, .ref u6, .ref u7, .ref u8, .int (nI len), .ref u9, .int (nI ba), .int (nI sm), .ref ua, .ref ub, .ref uc, .ref ud, .ref ue, .int (nI dy), .ref uf, .ref ug])), (u1, .inl (κ.2 0, 6, .inl (nA fk))), (u2, .inl (κ.2 0, 6, .inl (nA fs)))]) C fp_RX9_63_8 0 rfl rfl rfl (Nat.le_of_ble_eq_true rfl) rfl dX9_addRule_38 rfl ?_
    refine g_aload_n (pc' := 42) C 0 dX9_addRule_41 rfl rfl rfl ?_
    refine g_get (pc' := 45) C fl_RX9_63_8 0 rfl rfl dX9_addRule_42 rfl ?_
    refine g_if_leN (pc' := 48) (tgt := 50) C (by first | assumption | omega) dX9_addRule_45 (by decide) rfl (fun z => absurd z (by decide)) (fun _ => ?_)
    refine g_iconst (pc' := 49) (v := nI 0) C dX9_addRule_48 (by decide) rfl ?_
    have hc9 : c_addRule p0 p1 n = 1 := by simp [c_addRule, *] <;> omega
    exact g_retMi C hAe rfl rfl (Nat.le_of_ble_eq_true rfl) (Nat.le_of_ble_eq_true rfl) (⟨by rw [hc9] <;> rfl, by rw [hc9] <;> rfl⟩) dX9_addRule_49
  · refine g_iload_n (pc' := 11) C 2 dX9_addRule_10 rfl rfl rfl ?_
    refine g_iconst (pc' := 12) (v := nI 1) C dX9_addRule_11 (by decide) rfl ?_
    refine g_bipush (pc' := 14) (v := nI 50) C dX9_addRule_12 (by decide) rfl ?_
    refine g_callPS (pc' := 17) C lk_RX9_66 (kX9_in_1_50 l κ p1) [] rfl rfl (Nat.le_of_ble_eq_true rfl) ⟨Nat.le_of_ble_eq_true rfl, Nat.le_of_ble_eq_true rfl⟩ ⟨Nat.le_of_ble_eq_true rfl, Nat.le_of_ble_eq_true rfl⟩ rfl dX9_addRule_14 rfl (fun r_14_4 h_14_4 => ?_)
    obtain rfl : r_14_4 = b2i (inZ 1 50 p1) := h_14_4
    refine g_if_neB (pc' := 20) (tgt := 24) C dX9_addRule_17 (by decide) rfl (fun c_17_5 => ?_) (fun c_17_5 => ?_)
    · refine g_aload_n (pc' := 25) C 0 dX9_addRule_24 rfl rfl rfl ?_
      refine g_get (pc' := 28) C fl_RX9_73_8 0 rfl rfl dX9_addRule_25 rfl ?_
      refine g_bipush (pc' := 30) (v := nI 6) C dX9_addRule_28 (by decide) rfl ?_
      refine g_icmp_neN (pc' := 33) (tgt := 37) C (by first | assumption | omega) (by first | assumption | omega) dX9_addRule_30 (by decide) rfl (fun c_30_6 => ?_) (fun c_30_6 => ?_)
      · refine g_iconst (pc' := 38) (v := nI 0) C dX9_addRule_37 (by decide) rfl ?_
        refine g_put (pc' := 41) (ws' := [(u0, .inr (8, [.int (nI 0), .int (nI n), .ref u1, .ref u2, .int (nI ds), .ref u3, .int (nI mc), .ref u4, .ref u5, .ref u6, .ref u7, .ref u8, .int (nI len), .ref u9, .int (nI ba), .int (nI sm), .ref ua, .ref ub, .ref uc, .ref ud, .ref ue, .int (nI dy), .ref uf, .ref ug])), (u1, .inl (κ.2 0, 6, .inl (nA fk))), (u2, .inl (κ.2 0, 6, .inl (nA fs)))]) C fp_RX9_63_8 0 rfl rfl rfl (Nat.le_of_ble_eq_true rfl) rfl dX9_addRule_38 rfl ?_
        refine g_aload_n (pc' := 42) C 0 dX9_addRule_41 rfl rfl rfl ?_
        refine g_get (pc' := 45) C fl_RX9_63_8 0 rfl rfl dX9_addRule_42 rfl ?_
        refine g_if_leN (pc' := 48) (tgt := 50) C (by first | assumption | omega) dX9_addRule_45 (by decide) rfl (fun _ => ?_) (fun z => absurd z (by decide))
        obtain ⟨kd, -, hkd, rfl⟩ := inZ_w c_7_2 (by decide)
        obtain ⟨sp, -, hsp, rfl⟩ := inZ_w c_17_5 (by decide)
        refine g_aload_n (pc' := 51) C 0 dX9_addRule_50 rfl rfl rfl ?_
        refine g_get (pc' := 54) C fl_RX9_7_8 0 rfl rfl dX9_addRule_51 rfl ?_
        refine g_aload_n (pc' := 55) C 0 dX9_addRule_54 rfl rfl rfl ?_
        refine g_get (pc' := 58) C fl_RX9_73_8 0 rfl rfl dX9_addRule_55 rfl ?_
        refine g_iload_n (pc' := 59) C 1 dX9_addRule_58 rfl rfl rfl ?_
        refine g_iastN (pc' := 60) (ws' := [(u0, .inr (8, [.int (nI 0), .int (nI n), .ref u1, .ref u2, .int (nI ds), .ref u3, .int (nI mc), .ref u4, .ref u5, .ref u6, .ref u7, .ref u8, .int (nI len), .ref u9, .int (nI ba), .int (nI sm), .ref ua, .ref ub, .ref uc, .ref ud, .ref ue, .int (nI dy), .ref uf, .ref ug])), (u1, .inl (κ.2 0, 6, .inl (nA (va_up fk n kd)))), (u2, .inl (κ.2 0, 6, .inl (nA fs)))]) C 1 rfl n (by first | assumption | omega) (by decide) rfl dX9_addRule_59 rfl ?_
        refine g_aload_n (pc' := 61) C 0 dX9_addRule_60 rfl rfl rfl ?_
        refine g_get (pc' := 64) C fl_RX9_13_8 0 rfl rfl dX9_addRule_61 rfl ?_
        refine g_aload_n (pc' := 65) C 0 dX9_addRule_64 rfl rfl rfl ?_
        refine g_get (pc' := 68) C fl_RX9_73_8 0 rfl rfl dX9_addRule_65 rfl ?_
        refine g_iload_n (pc' := 69) C 2 dX9_addRule_68 rfl rfl rfl ?_
        refine g_iastN (pc' := 70) (ws' := [(u0, .inr (8, [.int (nI 0), .int (nI n), .ref u1, .ref u2, .int (nI ds), .ref u3, .int (nI mc), .ref u4, .ref u5, .ref u6, .ref u7, .ref u8, .int (nI len), .ref u9, .int (nI ba), .int (nI sm), .ref ua, .ref ub, .ref uc, .ref ud, .ref ue, .int (nI dy), .ref uf, .ref ug])), (u1, .inl (κ.2 0, 6, .inl (nA (va_up fk n kd)))), (u2, .inl (κ.2 0, 6, .inl (nA (va_up fs n sp))))]) C 2 rfl n (by first | assumption | omega) (by decide) rfl dX9_addRule_69 rfl ?_
        refine g_aload_n (pc' := 71) C 0 dX9_addRule_70 rfl rfl rfl ?_
        refine g_dup (pc' := 72) C dX9_addRule_71 rfl rfl ?_
        refine g_get (pc' := 75) C fl_RX9_73_8 0 rfl rfl dX9_addRule_72 rfl ?_
        refine g_iconst (pc' := 76) (v := nI 1) C dX9_addRule_75 (by decide) rfl ?_
        refine g_iadd (pc' := 77) (v := nI (n + 1)) C dX9_addRule_76 (nI_add _ _) rfl ?_
        refine g_put (pc' := 80) (ws' := [(u0, .inr (8, [.int (nI 0), .int (nI (n + 1)), .ref u1, .ref u2, .int (nI ds), .ref u3, .int (nI mc), .ref u4, .ref u5, .ref u6, .ref u7, .ref u8, .int (nI len), .ref u9, .int (nI ba), .int (nI sm), .ref ua, .ref ub, .ref uc, .ref ud, .ref ue, .int (nI dy), .ref uf, .ref ug])), (u1, .inl (κ.2 0, 6, .inl (nA (va_up fk n kd)))), (u2, .inl (κ.2 0, 6, .inl (nA (va_up fs n sp))))]) C fp_RX9_73_8 0 rfl rfl rfl (Nat.le_of_ble_eq_true rfl) rfl dX9_addRule_77 rfl ?_
        refine g_aload_n (pc' := 81) C 0 dX9_addRule_80 rfl rfl rfl ?_
        refine g_get (pc' := 84) C fl_RX9_73_8 0 rfl rfl dX9_addRule_81 rfl ?_
        refine g_iconst (pc' := 85) (v := nI 1) C dX9_addRule_84 (by decide) rfl ?_
        refine g_isub (pc' := 86) (v := nI n) C dX9_addRule_85 (pk_sub (Nat.le_add_left 1 _)) rfl ?_
        have hc9 : c_addRule (nI kd) (nI sp) n = 0 := by simp [c_addRule, *] <;> omega
        exact g_retMi C hAe rfl rfl (Nat.le_of_ble_eq_true rfl) (Nat.le_of_ble_eq_true rfl) (⟨by rw [hc9] <;> (try simp only [n9_nI (show kd < 2147483648 by omega), n9_nI (show sp < 2147483648 by omega)]) <;> rfl, by rw [hc9] <;> (try simp only [n9_nI (show kd < 2147483648 by omega), n9_nI (show sp < 2147483648 by omega)]) <;> rfl⟩) dX9_addRule_86
      · refine g_iconst (pc' := 34) (v := nI 2) C dX9_addRule_33 (by decide) rfl ?_
        refine g_goto (tgt := 38) C dX9_addRule_34 (by decide) ?_
        refine g_put (pc' := 41) (ws' := [(u0, .inr (8, [.int (nI 2), .int (nI n), .ref u1, .ref u2, .int (nI ds), .ref u3, .int (nI mc), .ref u4, .ref u5, .ref u6, .ref u7, .ref u8, .int (nI len), .ref u9, .int (nI ba), .int (nI sm), .ref ua, .ref ub, .ref uc, .ref ud, .ref ue, .int (nI dy), .ref uf, .ref ug])), (u1, .inl (κ.2 0, 6, .inl (nA fk))), (u2, .inl (κ.2 0, 6, .inl (nA fs)))]) C fp_RX9_63_8 0 rfl rfl rfl (Nat.le_of_ble_eq_true rfl) rfl dX9_addRule_38 rfl ?_
        refine g_aload_n (pc' := 42) C 0 dX9_addRule_41 rfl rfl rfl ?_
        refine g_get (pc' := 45) C fl_RX9_63_8 0 rfl rfl dX9_addRule_42 rfl ?_
        refine g_if_leN (pc' := 48) (tgt := 50) C (by first | assumption | omega) dX9_addRule_45 (by decide) rfl (fun z => absurd z (by decide)) (fun _ => ?_)
        refine g_iconst (pc' := 49) (v := nI 0) C dX9_addRule_48 (by decide) rfl ?_
        have hc9 : c_addRule p0 p1 n = 2 := by simp [c_addRule, *] <;> omega
        exact g_retMi C hAe rfl rfl (Nat.le_of_ble_eq_true rfl) (Nat.le_of_ble_eq_true rfl) (⟨by rw [hc9] <;> rfl, by rw [hc9] <;> rfl⟩) dX9_addRule_49
    · refine g_iconst (pc' := 21) (v := nI 1) C dX9_addRule_20 (by decide) rfl ?_
      refine g_goto (tgt := 38) C dX9_addRule_21 (by decide) ?_
      refine g_put (pc' := 41) (ws' := [(u0, .inr (8, [.int (nI 1), .int (nI n), .ref u1, .ref u2, .int (nI ds), .ref u3, .int (nI mc), .ref u4, .ref u5, .ref u6, .ref u7, .ref u8, .int (nI len), .ref u9, .int (nI ba), .int (nI sm), .ref ua, .ref ub, .ref uc, .ref ud, .ref ue, .int (nI dy), .ref uf, .ref ug])), (u1, .inl (κ.2 0, 6, .inl (nA fk))), (u2, .inl (κ.2 0, 6, .inl (nA fs)))]) C fp_RX9_63_8 0 rfl rfl rfl (Nat.le_of_ble_eq_true rfl) rfl dX9_addRule_38 rfl ?_
      refine g_aload_n (pc' := 42) C 0 dX9_addRule_41 rfl rfl rfl ?_
      refine g_get (pc' := 45) C fl_RX9_63_8 0 rfl rfl dX9_addRule_42 rfl ?_
      refine g_if_leN (pc' := 48) (tgt := 50) C (by first | assumption | omega) dX9_addRule_45 (by decide) rfl (fun z => absurd z (by decide)) (fun _ => ?_)
      refine g_iconst (pc' := 49) (v := nI 0) C dX9_addRule_48 (by decide) rfl ?_
      have hc9 : c_addRule p0 p1 n = 1 := by simp [c_addRule, *] <;> omega
      exact g_retMi C hAe rfl rfl (Nat.le_of_ble_eq_true rfl) (Nat.le_of_ble_eq_true rfl) (⟨by rw [hc9] <;> rfl, by rw [hc9] <;> rfl⟩) dX9_addRule_49

set_option maxHeartbeats 4000000 in
set_option maxRecDepth 100000 in
theorem kX9_forms (l : Launch) (κ : KK) (u0 : Nat) (u1 : Nat) (u2 : Nat) (u3 : Nat) (u4 : Nat) (u5 : Nat) (u6 : Nat) (u7 : Nat) (u8 : Nat) (u9 : Nat) (ua : Nat) (ub : Nat) (uc : Nat) (ud : Nat) (ue : Nat) (uf : Nat) (ug : Nat) (t9 : Nat) (n : Nat) (ds : Nat) (mc : Nat) (len : Nat) (ba : Nat) (sm : Nat) (dy : Nat) (fk : Nat → Nat) (fs : Nat → Nat) (w : Nat) (h : Nat) (hR : RW n fk fs) (hw : w < 100) (hh : h < 100) : CP l yX9_forms cX9_forms 5 (some .boolean) 0 κ [.ref u0, .int (nI w), .int (nI h)] [(u0, .inr (8, [.int (nI t9), .int (nI n), .ref u1, .ref u2, .int (nI ds), .ref u3, .int (nI mc), .ref u4, .ref u5, .ref u6, .ref u7, .ref u8, .int (nI len), .ref u9, .int (nI ba), .int (nI sm), .ref ua, .ref ub, .ref uc, .ref ud, .ref ue, .int (nI dy), .ref uf, .ref ug])), (u1, .inl (κ.2 0, 6, .inl (nA fk))), (u2, .inl (κ.2 0, 6, .inl (nA fs)))] (fun vr_ => vr_ = b2i (fm n fk fs w h)) := by
  refine cp_of RX9 rfl (by decide) (Nat.le_of_ble_eq_true rfl) ?_
  intro p e s m below meth c C
  refine g_lv (lv' := [(0, .ref u0), (1, .int (nI w)), (2, .int (nI h))]) [0, 1, 2] rfl ?_
  obtain ⟨hn, hk, hs⟩ := hR
  refine g_iload_n (pc' := 1) C 1 dX9_forms_0 rfl rfl rfl ?_
  refine g_iload_n (pc' := 2) C 2 dX9_forms_1 rfl rfl rfl ?_
  refine g_icmp_neN (pc' := 5) (tgt := 9) C (by first | assumption | omega) (by first | assumption | omega) dX9_forms_2 (by decide) rfl (fun c_2_1 => ?_) (fun c_2_1 => ?_)
  · refine g_iconst (pc' := 10) (v := nI 0) C dX9_forms_9 (by decide) rfl ?_
    refine g_istore_n (pc' := 11) (lv' := [(3, .int (nI 0)), (0, .ref u0), (1, .int (nI w)), (2, .int (nI h))]) C dX9_forms_10 rfl (by decide) rfl rfl ?_
    refine g_iconst (pc' := 12) (v := nI 0) C dX9_forms_11 (by decide) rfl ?_
    refine g_istore (pc' := 14) (lv' := [(4, .int (nI 0)), (3, .int (nI 0)), (0, .ref u0), (1, .int (nI w)), (2, .int (nI h))]) C dX9_forms_12 (by decide) rfl rfl ?_
    have lp_a2 : ∀ (fu_a2 : Nat) (i : Nat) (b9 : Bool), (i ≤ n) → (b9 = (decide (w = h) || fmL fk fs w h i)) → (n - i) < fu_a2 → G p l e (rmv 0 0 0) s m ([.ref u0, .int (nI w), .int (nI h)] : List Value).toArray below meth c κ 5 (JP s) [(u0, .inr (8, [.int (nI t9), .int (nI n), .ref u1, .ref u2, .int (nI ds), .ref u3, .int (nI mc), .ref u4, .ref u5, .ref u6, .ref u7, .ref u8, .int (nI len), .ref u9, .int (nI ba), .int (nI sm), .ref ua, .ref ub, .ref uc, .ref ud, .ref ue, .int (nI dy), .ref uf, .ref ug])), (u1, .inl (κ.2 0, 6, .inl (nA fk))), (u2, .inl (κ.2 0, 6, .inl (nA fs)))] 0 0 (MQ below (vp_Si (fun vr_ => vr_ = b2i (fm n fk fs w h))) ([.ref u0, .int (nI w), .int (nI h)] : List Value).toArray s 0 0 (fun _ => False)) 14 [(4, .int (nI i)), (3, .int (b2i b9)), (1, .int (nI w)), (2, .int (nI h)), (0, .ref u0)] [] := by
      intro fu_a2
      induction fu_a2 with
      | zero => intro i b9 hi hb hmu; exact absurd hmu (Nat.not_lt_zero _)
      | succ fu_a2 ih_a2 =>
        intro i b9 hi hb hmu_a2
        refine g_iload (pc' := 16) C 0 dX9_forms_14 rfl rfl ?_
        refine g_aload_n (pc' := 17) C 4 dX9_forms_16 rfl rfl rfl ?_
        refine g_get (pc' := 20) C fl_RX9_73_8 0 rfl rfl dX9_forms_17 rfl ?_
        refine g_icmp_geN (pc' := 23) (tgt := 65) C (by first | assumption | omega) (by first | assumption | omega) dX9_forms_20 (by decide) rfl (fun c_20_3 => ?_) (fun c_20_3 => ?_)
        · refine g_iload_n (pc' := 66) C 1 dX9_forms_65 rfl rfl rfl ?_
          exact g_retP C rfl (nar_b2i _) (show b2i b9 = b2i (fm n fk fs w h) by have e : i = n := (by omega); rw [hb, e]; rfl) dX9_forms_66
        · refine g_iload_n (pc' := 24) C 1 dX9_forms_23 rfl rfl rfl ?_
          refine g_if_neB (pc' := 27) (tgt := 53) C dX9_forms_24 (by decide) rfl (fun c_24_4 => ?_) (fun c_24_4 => ?_)
          · refine g_iconst (pc' := 54) (v := nI 1) C dX9_forms_53 (by decide) rfl ?_
            refine g_goto (tgt := 58) C dX9_forms_54 (by decide) ?_
            refine g_istore_n (pc' := 59) (lv' := [(3, .int (nI 1)), (4, .int (nI i)), (1, .int (nI w)), (2, .int (nI h)), (0, .ref u0)]) C dX9_forms_58 rfl (by decide) rfl rfl ?_
            refine g_iinc (pc' := 62) (v := nI (i + 1)) (lv' := [(4, .int (nI (i + 1))), (3, .int (nI 1)), (1, .int (nI w)), (2, .int (nI h)), (0, .ref u0)]) C 1 dX9_forms_59 rfl (iincN1 _) (by decide) rfl rfl ?_
            refine g_goto (tgt := 14) C dX9_forms_62 (by decide) ?_
            exact ih_a2 (i + 1) true (by first | assumption | omega) (by rw [fmL, ← Bool.or_assoc, ← hb, c_24_4]; rfl) (by omega)
          · refine g_aload_n (pc' := 28) C 4 dX9_forms_27 rfl rfl rfl ?_
            refine g_get (pc' := 31) C fl_RX9_7_8 0 rfl rfl dX9_forms_28 rfl ?_
            refine g_iload (pc' := 33) C 0 dX9_forms_31 rfl rfl ?_
            refine g_ialdN (pc' := 34) C 1 (f := fk) rfl i (by first | assumption | omega) (by decide) dX9_forms_33 rfl ?_
            refine g_iload_n (pc' := 35) C 3 dX9_forms_34 rfl rfl rfl ?_
            refine g_iconst (pc' := 36) (v := nI 3) C dX9_forms_35 (by decide) rfl ?_
            refine g_irem (pc' := 37) (v := nI (h % 3)) C dX9_forms_36 (by decide) (pk_remN (by first | assumption | omega) (by decide) (by decide)) rfl ?_
            refine g_icmp_neN (pc' := 40) (tgt := 57) C (Nat.lt_trans (hk _) (by decide)) (by omega) dX9_forms_37 (by decide) rfl (fun c_37_5 => ?_) (fun c_37_5 => ?_)
            · refine g_iconst (pc' := 58) (v := nI 0) C dX9_forms_57 (by decide) rfl ?_
              refine g_istore_n (pc' := 59) (lv' := [(3, .int (nI 0)), (4, .int (nI i)), (1, .int (nI w)), (2, .int (nI h)), (0, .ref u0)]) C dX9_forms_58 rfl (by decide) rfl rfl ?_
              refine g_iinc (pc' := 62) (v := nI (i + 1)) (lv' := [(4, .int (nI (i + 1))), (3, .int (nI 0)), (1, .int (nI w)), (2, .int (nI h)), (0, .ref u0)]) C 1 dX9_forms_59 rfl (iincN1 _) (by decide) rfl rfl ?_
              refine g_goto (tgt := 14) C dX9_forms_62 (by decide) ?_
              exact ih_a2 (i + 1) false (by first | assumption | omega) (by rw [fmL, ← Bool.or_assoc, ← hb, c_24_4]; simp [c_37_5]) (by omega)
            · refine g_iload_n (pc' := 41) C 2 dX9_forms_40 rfl rfl rfl ?_
              refine g_iload_n (pc' := 42) C 3 dX9_forms_41 rfl rfl rfl ?_
              refine g_aload_n (pc' := 43) C 4 dX9_forms_42 rfl rfl rfl ?_
              refine g_get (pc' := 46) C fl_RX9_13_8 0 rfl rfl dX9_forms_43 rfl ?_
              refine g_iload (pc' := 48) C 0 dX9_forms_46 rfl rfl ?_
              refine g_ialdN (pc' := 49) C 2 (f := fs) rfl i (by first | assumption | omega) (by decide) dX9_forms_48 rfl ?_
              refine g_iadd (pc' := 50) (v := nI (h + (fs i))) C dX9_forms_49 (nI_add _ _) rfl ?_
              refine g_icmp_neN (pc' := 53) (tgt := 57) C (by first | assumption | omega) (by have := hs i; omega) dX9_forms_50 (by decide) rfl (fun c_50_6 => ?_) (fun c_50_6 => ?_)
              · refine g_iconst (pc' := 58) (v := nI 0) C dX9_forms_57 (by decide) rfl ?_
                refine g_istore_n (pc' := 59) (lv' := [(3, .int (nI 0)), (4, .int (nI i)), (1, .int (nI w)), (2, .int (nI h)), (0, .ref u0)]) C dX9_forms_58 rfl (by decide) rfl rfl ?_
                refine g_iinc (pc' := 62) (v := nI (i + 1)) (lv' := [(4, .int (nI (i + 1))), (3, .int (nI 0)), (1, .int (nI w)), (2, .int (nI h)), (0, .ref u0)]) C 1 dX9_forms_59 rfl (iincN1 _) (by decide) rfl rfl ?_
                refine g_goto (tgt := 14) C dX9_forms_62 (by decide) ?_
                exact ih_a2 (i + 1) false (by first | assumption | omega) (by rw [fmL, ← Bool.or_assoc, ← hb, c_24_4]; simp [c_37_5, c_50_6]) (by omega)
              · refine g_iconst (pc' := 54) (v := nI 1) C dX9_forms_53 (by decide) rfl ?_
                refine g_goto (tgt := 58) C dX9_forms_54 (by decide) ?_
                refine g_istore_n (pc' := 59) (lv' := [(3, .int (nI 1)), (4, .int (nI i)), (1, .int (nI w)), (2, .int (nI h)), (0, .ref u0)]) C dX9_forms_58 rfl (by decide) rfl rfl ?_
                refine g_iinc (pc' := 62) (v := nI (i + 1)) (lv' := [(4, .int (nI (i + 1))), (3, .int (nI 1)), (1, .int (nI w)), (2, .int (nI h)), (0, .ref u0)]) C 1 dX9_forms_59 rfl (iincN1 _) (by decide) rfl rfl ?_
                refine g_goto (tgt := 14) C dX9_forms_62 (by decide) ?_
                exact ih_a2 (i + 1) true (by first | assumption | omega) (by rw [fmL, ← Bool.or_assoc, ← hb, c_24_4]; simp [c_37_5, c_50_6]) (by omega)
    refine g_lv (lv' := [(4, .int (nI 0)), (3, .int (nI 0)), (1, .int (nI w)), (2, .int (nI h)), (0, .ref u0)]) [0, 1, 3, 4, 2] rfl ?_
    exact lp_a2 (n + 1) 0 false (Nat.zero_le _) (by simp [fmL, c_2_1]) (by omega)
  · refine g_iconst (pc' := 6) (v := nI 1) C dX9_forms_5 (by decide) rfl ?_
    refine g_goto (tgt := 10) C dX9_forms_6 (by decide) ?_
    refine g_istore_n (pc' := 11) (lv' := [(3, .int (nI 1)), (0, .ref u0), (1, .int (nI w)), (2, .int (nI h))]) C dX9_forms_10 rfl (by decide) rfl rfl ?_
    refine g_iconst (pc' := 12) (v := nI 0) C dX9_forms_11 (by decide) rfl ?_
    refine g_istore (pc' := 14) (lv' := [(4, .int (nI 0)), (3, .int (nI 1)), (0, .ref u0), (1, .int (nI w)), (2, .int (nI h))]) C dX9_forms_12 (by decide) rfl rfl ?_
    have lp_a7 : ∀ (fu_a7 : Nat) (i : Nat) (b9 : Bool), (i ≤ n) → (b9 = (decide (w = h) || fmL fk fs w h i)) → (n - i) < fu_a7 → G p l e (rmv 0 0 0) s m ([.ref u0, .int (nI w), .int (nI h)] : List Value).toArray below meth c κ 5 (JP s) [(u0, .inr (8, [.int (nI t9), .int (nI n), .ref u1, .ref u2, .int (nI ds), .ref u3, .int (nI mc), .ref u4, .ref u5, .ref u6, .ref u7, .ref u8, .int (nI len), .ref u9, .int (nI ba), .int (nI sm), .ref ua, .ref ub, .ref uc, .ref ud, .ref ue, .int (nI dy), .ref uf, .ref ug])), (u1, .inl (κ.2 0, 6, .inl (nA fk))), (u2, .inl (κ.2 0, 6, .inl (nA fs)))] 0 0 (MQ below (vp_Si (fun vr_ => vr_ = b2i (fm n fk fs w h))) ([.ref u0, .int (nI w), .int (nI h)] : List Value).toArray s 0 0 (fun _ => False)) 14 [(4, .int (nI i)), (3, .int (b2i b9)), (1, .int (nI w)), (2, .int (nI h)), (0, .ref u0)] [] := by
      intro fu_a7
      induction fu_a7 with
      | zero => intro i b9 hi hb hmu; exact absurd hmu (Nat.not_lt_zero _)
      | succ fu_a7 ih_a7 =>
        intro i b9 hi hb hmu_a7
        refine g_iload (pc' := 16) C 0 dX9_forms_14 rfl rfl ?_
        refine g_aload_n (pc' := 17) C 4 dX9_forms_16 rfl rfl rfl ?_
        refine g_get (pc' := 20) C fl_RX9_73_8 0 rfl rfl dX9_forms_17 rfl ?_
        refine g_icmp_geN (pc' := 23) (tgt := 65) C (by first | assumption | omega) (by first | assumption | omega) dX9_forms_20 (by decide) rfl (fun c_20_8 => ?_) (fun c_20_8 => ?_)
        · refine g_iload_n (pc' := 66) C 1 dX9_forms_65 rfl rfl rfl ?_
          exact g_retP C rfl (nar_b2i _) (show b2i b9 = b2i (fm n fk fs w h) by have e : i = n := (by omega); rw [hb, e]; rfl) dX9_forms_66
        · refine g_iload_n (pc' := 24) C 1 dX9_forms_23 rfl rfl rfl ?_
          refine g_if_neB (pc' := 27) (tgt := 53) C dX9_forms_24 (by decide) rfl (fun c_24_9 => ?_) (fun c_24_9 => ?_)
          · refine g_iconst (pc' := 54) (v := nI 1) C dX9_forms_53 (by decide) rfl ?_
            refine g_goto (tgt := 58) C dX9_forms_54 (by decide) ?_
            refine g_istore_n (pc' := 59) (lv' := [(3, .int (nI 1)), (4, .int (nI i)), (1, .int (nI w)), (2, .int (nI h)), (0, .ref u0)]) C dX9_forms_58 rfl (by decide) rfl rfl ?_
            refine g_iinc (pc' := 62) (v := nI (i + 1)) (lv' := [(4, .int (nI (i + 1))), (3, .int (nI 1)), (1, .int (nI w)), (2, .int (nI h)), (0, .ref u0)]) C 1 dX9_forms_59 rfl (iincN1 _) (by decide) rfl rfl ?_
            refine g_goto (tgt := 14) C dX9_forms_62 (by decide) ?_
            exact ih_a7 (i + 1) true (by first | assumption | omega) (by rw [fmL, ← Bool.or_assoc, ← hb, c_24_9]; rfl) (by omega)
          · refine g_aload_n (pc' := 28) C 4 dX9_forms_27 rfl rfl rfl ?_
            refine g_get (pc' := 31) C fl_RX9_7_8 0 rfl rfl dX9_forms_28 rfl ?_
            refine g_iload (pc' := 33) C 0 dX9_forms_31 rfl rfl ?_
            refine g_ialdN (pc' := 34) C 1 (f := fk) rfl i (by first | assumption | omega) (by decide) dX9_forms_33 rfl ?_
            refine g_iload_n (pc' := 35) C 3 dX9_forms_34 rfl rfl rfl ?_
            refine g_iconst (pc' := 36) (v := nI 3) C dX9_forms_35 (by decide) rfl ?_
            refine g_irem (pc' := 37) (v := nI (h % 3)) C dX9_forms_36 (by decide) (pk_remN (by first | assumption | omega) (by decide) (by decide)) rfl ?_
            refine g_icmp_neN (pc' := 40) (tgt := 57) C (Nat.lt_trans (hk _) (by decide)) (by omega) dX9_forms_37 (by decide) rfl (fun c_37_10 => ?_) (fun c_37_10 => ?_)
            · refine g_iconst (pc' := 58) (v := nI 0) C dX9_forms_57 (by decide) rfl ?_
              refine g_istore_n (pc' := 59) (lv' := [(3, .int (nI 0)), (4, .int (nI i)), (1, .int (nI w)), (2, .int (nI h)), (0, .ref u0)]) C dX9_forms_58 rfl (by decide) rfl rfl ?_
              refine g_iinc (pc' := 62) (v := nI (i + 1)) (lv' := [(4, .int (nI (i + 1))), (3, .int (nI 0)), (1, .int (nI w)), (2, .int (nI h)), (0, .ref u0)]) C 1 dX9_forms_59 rfl (iincN1 _) (by decide) rfl rfl ?_
              refine g_goto (tgt := 14) C dX9_forms_62 (by decide) ?_
              exact ih_a7 (i + 1) false (by first | assumption | omega) (by rw [fmL, ← Bool.or_assoc, ← hb, c_24_9]; simp [c_37_10]) (by omega)
            · refine g_iload_n (pc' := 41) C 2 dX9_forms_40 rfl rfl rfl ?_
              refine g_iload_n (pc' := 42) C 3 dX9_forms_41 rfl rfl rfl ?_
              refine g_aload_n (pc' := 43) C 4 dX9_forms_42 rfl rfl rfl ?_
              refine g_get (pc' := 46) C fl_RX9_13_8 0 rfl rfl dX9_forms_43 rfl ?_
              refine g_iload (pc' := 48) C 0 dX9_forms_46 rfl rfl ?_
              refine g_ialdN (pc' := 49) C 2 (f := fs) rfl i (by first | assumption | omega) (by decide) dX9_forms_48 rfl ?_
              refine g_iadd (pc' := 50) (v := nI (h + (fs i))) C dX9_forms_49 (nI_add _ _) rfl ?_
              refine g_icmp_neN (pc' := 53) (tgt := 57) C (by first | assumption | omega) (by have := hs i; omega) dX9_forms_50 (by decide) rfl (fun c_50_11 => ?_) (fun c_50_11 => ?_)
              · refine g_iconst (pc' := 58) (v := nI 0) C dX9_forms_57 (by decide) rfl ?_
                refine g_istore_n (pc' := 59) (lv' := [(3, .int (nI 0)), (4, .int (nI i)), (1, .int (nI w)), (2, .int (nI h)), (0, .ref u0)]) C dX9_forms_58 rfl (by decide) rfl rfl ?_
                refine g_iinc (pc' := 62) (v := nI (i + 1)) (lv' := [(4, .int (nI (i + 1))), (3, .int (nI 0)), (1, .int (nI w)), (2, .int (nI h)), (0, .ref u0)]) C 1 dX9_forms_59 rfl (iincN1 _) (by decide) rfl rfl ?_
                refine g_goto (tgt := 14) C dX9_forms_62 (by decide) ?_
                exact ih_a7 (i + 1) false (by first | assumption | omega) (by rw [fmL, ← Bool.or_assoc, ← hb, c_24_9]; simp [c_37_10, c_50_11]) (by omega)
              · refine g_iconst (pc' := 54) (v := nI 1) C dX9_forms_53 (by decide) rfl ?_
                refine g_goto (tgt := 58) C dX9_forms_54 (by decide) ?_
                refine g_istore_n (pc' := 59) (lv' := [(3, .int (nI 1)), (4, .int (nI i)), (1, .int (nI w)), (2, .int (nI h)), (0, .ref u0)]) C dX9_forms_58 rfl (by decide) rfl rfl ?_
                refine g_iinc (pc' := 62) (v := nI (i + 1)) (lv' := [(4, .int (nI (i + 1))), (3, .int (nI 1)), (1, .int (nI w)), (2, .int (nI h)), (0, .ref u0)]) C 1 dX9_forms_59 rfl (iincN1 _) (by decide) rfl rfl ?_
                refine g_goto (tgt := 14) C dX9_forms_62 (by decide) ?_
                exact ih_a7 (i + 1) true (by first | assumption | omega) (by rw [fmL, ← Bool.or_assoc, ← hb, c_24_9]; simp [c_37_10, c_50_11]) (by omega)
    refine g_lv (lv' := [(4, .int (nI 0)), (3, .int (nI 1)), (1, .int (nI w)), (2, .int (nI h)), (0, .ref u0)]) [0, 1, 3, 4, 2] rfl ?_
    exact lp_a7 (n + 1) 0 true (Nat.zero_le _) (by simp [fmL, c_2_1]) (by omega)

set_option maxHeartbeats 4000000 in
set_option maxRecDepth 100000 in
theorem kX9_headwords (l : Launch) (κ : KK) (u0 : Nat) (u1 : Nat) (u2 : Nat) (u3 : Nat) (u4 : Nat) (u5 : Nat) (u6 : Nat) (u7 : Nat) (u8 : Nat) (u9 : Nat) (ua : Nat) (ub : Nat) (uc : Nat) (ud : Nat) (ue : Nat) (uf : Nat) (ug : Nat) (t9 : Nat) (n : Nat) (ds : Nat) (mc : Nat) (len : Nat) (ba : Nat) (sm : Nat) (dy : Nat) (fk : Nat → Nat) (fs : Nat → Nat) (p0 : Int32) (hR : RW n fk fs) : CMi l yX9_headwords cX9_headwords 4 (some .int) 2 0 0 κ [.ref u0, .int p0] [(u0, .inr (8, [.int (nI t9), .int (nI n), .ref u1, .ref u2, .int (nI ds), .ref u3, .int (nI mc), .ref u4, .ref u5, .ref u6, .ref u7, .ref u8, .int (nI len), .ref u9, .int (nI ba), .int (nI sm), .ref ua, .ref ub, .ref uc, .ref ud, .ref ue, .int (nI dy), .ref uf, .ref ug])), (u1, .inl (κ.2 0, 6, .inl (nA fk))), (u2, .inl (κ.2 0, 6, .inl (nA fs)))] (fun (vr_ : Int32) (vw_ : va_W) => vr_ = nI (if c_w p0 = 0 then cntB (fm n fk fs (n9 p0)) 100 else 0) ∧ vw_ = [(u0, .inr (8, [.int (nI (c_w p0)), .int (nI n), .ref u1, .ref u2, .int (nI ds), .ref u3, .int (nI mc), .ref u4, .ref u5, .ref u6, .ref u7, .ref u8, .int (nI len), .ref u9, .int (nI ba), .int (nI sm), .ref ua, .ref ub, .ref uc, .ref ud, .ref ue, .int (nI dy), .ref uf, .ref ug])), (u1, .inl (κ.2 0, 6, .inl (nA fk))), (u2, .inl (κ.2 0, 6, .inl (nA fs)))]) := by
  refine cmi_of RX9 rfl (by decide) (Nat.le_of_ble_eq_true rfl) ?_
  intro p e s m below meth c A C hAe hA hini
  refine g_lv (lv' := [(0, .ref u0), (1, .int p0)]) [0, 1] rfl ?_
  refine g_aload_n (pc' := 1) C 0 dX9_headwords_0 rfl rfl rfl ?_
  refine g_iload_n (pc' := 2) C 1 dX9_headwords_1 rfl rfl rfl ?_
  refine g_callPS (pc' := 5) C lk_RX9_76 (kX9_isWord l κ p0) [] rfl rfl (Nat.le_of_ble_eq_true rfl) ⟨Nat.le_of_ble_eq_true rfl, Nat.le_of_ble_eq_true rfl⟩ ⟨Nat.le_of_ble_eq_true rfl, Nat.le_of_ble_eq_true rfl⟩ rfl dX9_headwords_2 rfl (fun r_2_1 h_2_1 => ?_)
  obtain rfl : r_2_1 = b2i (inZ 0 99 p0) := h_2_1
  refine g_if_eqB (pc' := 8) (tgt := 12) C dX9_headwords_5 (by decide) rfl (fun c_5_2 => ?_) (fun c_5_2 => ?_)
  · refine g_iconst (pc' := 13) (v := nI 1) C dX9_headwords_12 (by decide) rfl ?_
    refine g_put (pc' := 16) (ws' := [(u0, .inr (8, [.int (nI 1), .int (nI n), .ref u1, .ref u2, .int (nI ds), .ref u3, .int (nI mc), .ref u4, .ref u5, .ref u6, .ref u7, .ref u8, .int (nI len), .ref u9, .int (nI ba), .int (nI sm), .ref ua, .ref ub, .ref uc, .ref ud, .ref ue, .int (nI dy), .ref uf, .ref ug])), (u1, .inl (κ.2 0, 6, .inl (nA fk))), (u2, .inl (κ.2 0, 6, .inl (nA fs)))]) C fp_RX9_63_8 0 rfl rfl rfl (Nat.le_of_ble_eq_true rfl) rfl dX9_headwords_13 rfl ?_
    refine g_iconst (pc' := 17) (v := nI 0) C dX9_headwords_16 (by decide) rfl ?_
    refine g_istore_n (pc' := 18) (lv' := [(2, .int (nI 0)), (0, .ref u0), (1, .int p0)]) C dX9_headwords_17 rfl (by decide) rfl rfl ?_
    refine g_iconst (pc' := 19) (v := nI 0) C dX9_headwords_18 (by decide) rfl ?_
    refine g_istore_n (pc' := 20) (lv' := [(3, .int (nI 0)), (2, .int (nI 0)), (0, .ref u0), (1, .int p0)]) C dX9_headwords_19 rfl (by decide) rfl rfl ?_
    refine g_iload_n (pc' := 21) C 0 dX9_headwords_20 rfl rfl rfl ?_
    refine g_bipush (pc' := 23) (v := nI 100) C dX9_headwords_21 (by decide) rfl ?_
    refine g_icmp_geN (pc' := 26) (tgt := 56) C (by first | assumption | omega) (by first | assumption | omega) dX9_headwords_23 (by decide) rfl (fun z => absurd z (by decide)) (fun _ => ?_)
    refine g_aload_n (pc' := 27) C 2 dX9_headwords_26 rfl rfl rfl ?_
    refine g_get (pc' := 30) C fl_RX9_63_8 0 rfl rfl dX9_headwords_27 rfl ?_
    refine g_if_neN (pc' := 33) (tgt := 56) C (by first | assumption | omega) dX9_headwords_30 (by decide) rfl (fun _ => ?_) (fun z => absurd z (by decide))
    refine g_iload_n (pc' := 57) C 1 dX9_headwords_56 rfl rfl rfl ?_
    have hc9 : c_w p0 = 1 := by simp [c_w, *] <;> omega
    exact g_retMi C hAe rfl rfl (Nat.le_of_ble_eq_true rfl) (Nat.le_of_ble_eq_true rfl) (⟨by rw [hc9] <;> rfl, by rw [hc9] <;> rfl⟩) dX9_headwords_57
  · refine g_iconst (pc' := 9) (v := nI 0) C dX9_headwords_8 (by decide) rfl ?_
    refine g_goto (tgt := 13) C dX9_headwords_9 (by decide) ?_
    refine g_put (pc' := 16) (ws' := [(u0, .inr (8, [.int (nI 0), .int (nI n), .ref u1, .ref u2, .int (nI ds), .ref u3, .int (nI mc), .ref u4, .ref u5, .ref u6, .ref u7, .ref u8, .int (nI len), .ref u9, .int (nI ba), .int (nI sm), .ref ua, .ref ub, .ref uc, .ref ud, .ref ue, .int (nI dy), .ref uf, .ref ug])), (u1, .inl (κ.2 0, 6, .inl (nA fk))), (u2, .inl (κ.2 0, 6, .inl (nA fs)))]) C fp_RX9_63_8 0 rfl rfl rfl (Nat.le_of_ble_eq_true rfl) rfl dX9_headwords_13 rfl ?_
    obtain ⟨w9, -, hw9, rfl⟩ := inZ_w c_5_2 (by decide)
    refine g_iconst (pc' := 17) (v := nI 0) C dX9_headwords_16 (by decide) rfl ?_
    refine g_istore_n (pc' := 18) (lv' := [(2, .int (nI 0)), (0, .ref u0), (1, .int (nI w9))]) C dX9_headwords_17 rfl (by decide) rfl rfl ?_
    refine g_iconst (pc' := 19) (v := nI 0) C dX9_headwords_18 (by decide) rfl ?_
    refine g_istore_n (pc' := 20) (lv' := [(3, .int (nI 0)), (2, .int (nI 0)), (0, .ref u0), (1, .int (nI w9))]) C dX9_headwords_19 rfl (by decide) rfl rfl ?_
    have lp_a : ∀ (fu_a : Nat) (i : Nat) (z : Nat), (i ≤ 100) → (z = cntB (fm n fk fs w9) i) → (100 - i) < fu_a → G p l e (rmv 2 0 0) s m ([.ref u0, .int (nI w9)] : List Value).toArray below meth c κ 4 (JM A s) [(u0, .inr (8, [.int (nI 0), .int (nI n), .ref u1, .ref u2, .int (nI ds), .ref u3, .int (nI mc), .ref u4, .ref u5, .ref u6, .ref u7, .ref u8, .int (nI len), .ref u9, .int (nI ba), .int (nI sm), .ref ua, .ref ub, .ref uc, .ref ud, .ref ue, .int (nI dy), .ref uf, .ref ug])), (u1, .inl (κ.2 0, 6, .inl (nA fk))), (u2, .inl (κ.2 0, 6, .inl (nA fs)))] 0 0 (MQ below (QMi κ [(u0, .inr (8, [.int (nI t9), .int (nI n), .ref u1, .ref u2, .int (nI ds), .ref u3, .int (nI mc), .ref u4, .ref u5, .ref u6, .ref u7, .ref u8, .int (nI len), .ref u9, .int (nI ba), .int (nI sm), .ref ua, .ref ub, .ref uc, .ref ud, .ref ue, .int (nI dy), .ref uf, .ref ug])), (u1, .inl (κ.2 0, 6, .inl (nA fk))), (u2, .inl (κ.2 0, 6, .inl (nA fs)))] s.heap.size (fun (vr_ : Int32) (vw_ : va_W) => vr_ = nI (if c_w (nI w9) = 0 then cntB (fm n fk fs (n9 (nI w9))) 100 else 0) ∧ vw_ = [(u0, .inr (8, [.int (nI (c_w (nI w9))), .int (nI n), .ref u1, .ref u2, .int (nI ds), .ref u3, .int (nI mc), .ref u4, .ref u5, .ref u6, .ref u7, .ref u8, .int (nI len), .ref u9, .int (nI ba), .int (nI sm), .ref ua, .ref ub, .ref uc, .ref ud, .ref ue, .int (nI dy), .ref uf, .ref ug])), (u1, .inl (κ.2 0, 6, .inl (nA fk))), (u2, .inl (κ.2 0, 6, .inl (nA fs)))])) ([.ref u0, .int (nI w9)] : List Value).toArray s 0 0 A) 20 [(3, .int (nI i)), (2, .int (nI z)), (0, .ref u0), (1, .int (nI w9))] [] := by
      intro fu_a
      induction fu_a with
      | zero => intro i z hi hz hmu; exact absurd hmu (Nat.not_lt_zero _)
      | succ fu_a ih_a =>
        intro i z hi hz hmu_a
        refine g_iload_n (pc' := 21) C 0 dX9_headwords_20 rfl rfl rfl ?_
        refine g_bipush (pc' := 23) (v := nI 100) C dX9_headwords_21 (by decide) rfl ?_
        refine g_icmp_geN (pc' := 26) (tgt := 56) C (by first | assumption | omega) (by first | assumption | omega) dX9_headwords_23 (by decide) rfl (fun c_23_5 => ?_) (fun c_23_5 => ?_)
        · refine g_iload_n (pc' := 57) C 1 dX9_headwords_56 rfl rfl rfl ?_
          have hc9 : c_w (nI w9) = 0 := by simp [c_w, *] <;> omega
          exact g_retMi C hAe rfl rfl (Nat.le_of_ble_eq_true rfl) (Nat.le_of_ble_eq_true rfl) (⟨by rw [hc9] <;> (try simp only [n9_nI (show w9 < 2147483648 by omega), hz, show i = 100 by omega]) <;> rfl, by rw [hc9] <;> (try simp only [n9_nI (show w9 < 2147483648 by omega), hz, show i = 100 by omega]) <;> rfl⟩) dX9_headwords_57
        · refine g_aload_n (pc' := 27) C 2 dX9_headwords_26 rfl rfl rfl ?_
          refine g_get (pc' := 30) C fl_RX9_63_8 0 rfl rfl dX9_headwords_27 rfl ?_
          refine g_if_neN (pc' := 33) (tgt := 56) C (by first | assumption | omega) dX9_headwords_30 (by decide) rfl (fun z => absurd z (by decide)) (fun _ => ?_)
          refine g_iload_n (pc' := 34) C 1 dX9_headwords_33 rfl rfl rfl ?_
          refine g_aload_n (pc' := 35) C 2 dX9_headwords_34 rfl rfl rfl ?_
          refine g_iload_n (pc' := 36) C 3 dX9_headwords_35 rfl rfl rfl ?_
          refine g_iload_n (pc' := 37) C 0 dX9_headwords_36 rfl rfl rfl ?_
          refine g_callP (pc' := 40) C lk_RX9_80 (kX9_forms l κ u0 u1 u2 u3 u4 u5 u6 u7 u8 u9 ua ub uc ud ue uf ug 0 n ds mc len ba sm dy fk fs w9 i (by first | assumption | omega) (by first | assumption | omega) (by first | assumption | omega)) 0 rfl rfl [0, 1, 2] rfl rfl (Nat.le_of_ble_eq_true rfl) ⟨Nat.le_of_ble_eq_true rfl, Nat.le_of_ble_eq_true rfl⟩ ⟨Nat.le_of_ble_eq_true rfl, Nat.le_of_ble_eq_true rfl⟩ rfl dX9_headwords_37 rfl (fun r_37_7 h_37_7 => ?_)
          obtain rfl : r_37_7 = b2i (fm n fk fs w9 i) := h_37_7
          refine g_if_eqB (pc' := 43) (tgt := 47) C dX9_headwords_40 (by decide) rfl (fun c_40_8 => ?_) (fun c_40_8 => ?_)
          · refine g_iconst (pc' := 48) (v := nI 0) C dX9_headwords_47 (by decide) rfl ?_
            refine g_iadd (pc' := 49) (v := nI (z + 0)) C dX9_headwords_48 (nI_add _ _) rfl ?_
            refine g_istore_n (pc' := 50) (lv' := [(2, .int (nI (z + 0))), (3, .int (nI i)), (0, .ref u0), (1, .int (nI w9))]) C dX9_headwords_49 rfl (by decide) rfl rfl ?_
            refine g_iinc (pc' := 53) (v := nI (i + 1)) (lv' := [(3, .int (nI (i + 1))), (2, .int (nI (z + 0))), (0, .ref u0), (1, .int (nI w9))]) C 1 dX9_headwords_50 rfl (iincN1 _) (by decide) rfl rfl ?_
            refine g_goto (tgt := 20) C dX9_headwords_53 (by decide) ?_
            exact ih_a (i + 1) (z + 0) (by first | assumption | omega) (by rw [cntB_f c_40_8, hz] <;> omega) (by omega)
          · refine g_iconst (pc' := 44) (v := nI 1) C dX9_headwords_43 (by decide) rfl ?_
            refine g_goto (tgt := 48) C dX9_headwords_44 (by decide) ?_
            refine g_iadd (pc' := 49) (v := nI (z + 1)) C dX9_headwords_48 (nI_add _ _) rfl ?_
            refine g_istore_n (pc' := 50) (lv' := [(2, .int (nI (z + 1))), (3, .int (nI i)), (0, .ref u0), (1, .int (nI w9))]) C dX9_headwords_49 rfl (by decide) rfl rfl ?_
            refine g_iinc (pc' := 53) (v := nI (i + 1)) (lv' := [(3, .int (nI (i + 1))), (2, .int (nI (z + 1))), (0, .ref u0), (1, .int (nI w9))]) C 1 dX9_headwords_50 rfl (iincN1 _) (by decide) rfl rfl ?_
            refine g_goto (tgt := 20) C dX9_headwords_53 (by decide) ?_
            exact ih_a (i + 1) (z + 1) (by first | assumption | omega) (by rw [cntB_t c_40_8, hz] <;> omega) (by omega)
    exact lp_a 101 0 0 (Nat.zero_le _) rfl (by omega)

set_option maxHeartbeats 4000000 in
set_option maxRecDepth 100000 in
theorem kX9_isForm (l : Launch) (κ : KK) (u0 : Nat) (u1 : Nat) (u2 : Nat) (u3 : Nat) (u4 : Nat) (u5 : Nat) (u6 : Nat) (u7 : Nat) (u8 : Nat) (u9 : Nat) (ua : Nat) (ub : Nat) (uc : Nat) (ud : Nat) (ue : Nat) (uf : Nat) (ug : Nat) (t9 : Nat) (n : Nat) (ds : Nat) (mc : Nat) (len : Nat) (ba : Nat) (sm : Nat) (dy : Nat) (fk : Nat → Nat) (fs : Nat → Nat) (p0 : Int32) (p1 : Int32) (hR : RW n fk fs) : CMi l yX9_isForm cX9_isForm 3 (some .boolean) 2 0 0 κ [.ref u0, .int p0, .int p1] [(u0, .inr (8, [.int (nI t9), .int (nI n), .ref u1, .ref u2, .int (nI ds), .ref u3, .int (nI mc), .ref u4, .ref u5, .ref u6, .ref u7, .ref u8, .int (nI len), .ref u9, .int (nI ba), .int (nI sm), .ref ua, .ref ub, .ref uc, .ref ud, .ref ue, .int (nI dy), .ref uf, .ref ug])), (u1, .inl (κ.2 0, 6, .inl (nA fk))), (u2, .inl (κ.2 0, 6, .inl (nA fs)))] (fun (vr_ : Int32) (vw_ : va_W) => vr_ = b2i (decide (c_isForm p0 p1 = 0) && fm n fk fs (n9 p0) (n9 p1)) ∧ vw_ = [(u0, .inr (8, [.int (nI (c_isForm p0 p1)), .int (nI n), .ref u1, .ref u2, .int (nI ds), .ref u3, .int (nI mc), .ref u4, .ref u5, .ref u6, .ref u7, .ref u8, .int (nI len), .ref u9, .int (nI ba), .int (nI sm), .ref ua, .ref ub, .ref uc, .ref ud, .ref ue, .int (nI dy), .ref uf, .ref ug])), (u1, .inl (κ.2 0, 6, .inl (nA fk))), (u2, .inl (κ.2 0, 6, .inl (nA fs)))]) := by
  refine cmi_of RX9 rfl (by decide) (Nat.le_of_ble_eq_true rfl) ?_
  intro p e s m below meth c A C hAe hA hini
  refine g_lv (lv' := [(0, .ref u0), (1, .int p0), (2, .int p1)]) [0, 1, 2] rfl ?_
  refine g_aload_n (pc' := 1) C 0 dX9_isForm_0 rfl rfl rfl ?_
  refine g_iload_n (pc' := 2) C 1 dX9_isForm_1 rfl rfl rfl ?_
  refine g_callPS (pc' := 5) C lk_RX9_76 (kX9_isWord l κ p0) [] rfl rfl (Nat.le_of_ble_eq_true rfl) ⟨Nat.le_of_ble_eq_true rfl, Nat.le_of_ble_eq_true rfl⟩ ⟨Nat.le_of_ble_eq_true rfl, Nat.le_of_ble_eq_true rfl⟩ rfl dX9_isForm_2 rfl (fun r_2_1 h_2_1 => ?_)
  obtain rfl : r_2_1 = b2i (inZ 0 99 p0) := h_2_1
  refine g_if_eqB (pc' := 8) (tgt := 19) C dX9_isForm_5 (by decide) rfl (fun c_5_2 => ?_) (fun c_5_2 => ?_)
  · refine g_iconst (pc' := 20) (v := nI 1) C dX9_isForm_19 (by decide) rfl ?_
    refine g_put (pc' := 23) (ws' := [(u0, .inr (8, [.int (nI 1), .int (nI n), .ref u1, .ref u2, .int (nI ds), .ref u3, .int (nI mc), .ref u4, .ref u5, .ref u6, .ref u7, .ref u8, .int (nI len), .ref u9, .int (nI ba), .int (nI sm), .ref ua, .ref ub, .ref uc, .ref ud, .ref ue, .int (nI dy), .ref uf, .ref ug])), (u1, .inl (κ.2 0, 6, .inl (nA fk))), (u2, .inl (κ.2 0, 6, .inl (nA fs)))]) C fp_RX9_63_8 0 rfl rfl rfl (Nat.le_of_ble_eq_true rfl) rfl dX9_isForm_20 rfl ?_
    refine g_aload_n (pc' := 24) C 0 dX9_isForm_23 rfl rfl rfl ?_
    refine g_get (pc' := 27) C fl_RX9_63_8 0 rfl rfl dX9_isForm_24 rfl ?_
    refine g_if_neN (pc' := 30) (tgt := 43) C (by first | assumption | omega) dX9_isForm_27 (by decide) rfl (fun _ => ?_) (fun z => absurd z (by decide))
    refine g_iconst (pc' := 44) (v := nI 0) C dX9_isForm_43 (by decide) rfl ?_
    have hc9 : c_isForm p0 p1 = 1 := by simp [c_isForm, *] <;> omega
    exact g_retMi C hAe rfl rfl (Nat.le_of_ble_eq_true rfl) (Nat.le_of_ble_eq_true rfl) (⟨by rw [hc9] <;> rfl, by rw [hc9] <;> rfl⟩) dX9_isForm_44
  · refine g_iload_n (pc' := 9) C 2 dX9_isForm_8 rfl rfl rfl ?_
    refine g_callPS (pc' := 12) C lk_RX9_76 (kX9_isWord l κ p1) [] rfl rfl (Nat.le_of_ble_eq_true rfl) ⟨Nat.le_of_ble_eq_true rfl, Nat.le_of_ble_eq_true rfl⟩ ⟨Nat.le_of_ble_eq_true rfl, Nat.le_of_ble_eq_true rfl⟩ rfl dX9_isForm_9 rfl (fun r_9_4 h_9_4 => ?_)
    obtain rfl : r_9_4 = b2i (inZ 0 99 p1) := h_9_4
    refine g_if_eqB (pc' := 15) (tgt := 19) C dX9_isForm_12 (by decide) rfl (fun c_12_5 => ?_) (fun c_12_5 => ?_)
    · refine g_iconst (pc' := 20) (v := nI 1) C dX9_isForm_19 (by decide) rfl ?_
      refine g_put (pc' := 23) (ws' := [(u0, .inr (8, [.int (nI 1), .int (nI n), .ref u1, .ref u2, .int (nI ds), .ref u3, .int (nI mc), .ref u4, .ref u5, .ref u6, .ref u7, .ref u8, .int (nI len), .ref u9, .int (nI ba), .int (nI sm), .ref ua, .ref ub, .ref uc, .ref ud, .ref ue, .int (nI dy), .ref uf, .ref ug])), (u1, .inl (κ.2 0, 6, .inl (nA fk))), (u2, .inl (κ.2 0, 6, .inl (nA fs)))]) C fp_RX9_63_8 0 rfl rfl rfl (Nat.le_of_ble_eq_true rfl) rfl dX9_isForm_20 rfl ?_
      refine g_aload_n (pc' := 24) C 0 dX9_isForm_23 rfl rfl rfl ?_
      refine g_get (pc' := 27) C fl_RX9_63_8 0 rfl rfl dX9_isForm_24 rfl ?_
      refine g_if_neN (pc' := 30) (tgt := 43) C (by first | assumption | omega) dX9_isForm_27 (by decide) rfl (fun _ => ?_) (fun z => absurd z (by decide))
      refine g_iconst (pc' := 44) (v := nI 0) C dX9_isForm_43 (by decide) rfl ?_
      have hc9 : c_isForm p0 p1 = 1 := by simp [c_isForm, *] <;> omega
      exact g_retMi C hAe rfl rfl (Nat.le_of_ble_eq_true rfl) (Nat.le_of_ble_eq_true rfl) (⟨by rw [hc9] <;> rfl, by rw [hc9] <;> rfl⟩) dX9_isForm_44
    · refine g_iconst (pc' := 16) (v := nI 0) C dX9_isForm_15 (by decide) rfl ?_
      refine g_goto (tgt := 20) C dX9_isForm_16 (by decide) ?_
      refine g_put (pc' := 23) (ws' := [(u0, .inr (8, [.int (nI 0), .int (nI n), .ref u1, .ref u2, .int (nI ds), .ref u3, .int (nI mc), .ref u4, .ref u5, .ref u6, .ref u7, .ref u8, .int (nI len), .ref u9, .int (nI ba), .int (nI sm), .ref ua, .ref ub, .ref uc, .ref ud, .ref ue, .int (nI dy), .ref uf, .ref ug])), (u1, .inl (κ.2 0, 6, .inl (nA fk))), (u2, .inl (κ.2 0, 6, .inl (nA fs)))]) C fp_RX9_63_8 0 rfl rfl rfl (Nat.le_of_ble_eq_true rfl) rfl dX9_isForm_20 rfl ?_
      refine g_aload_n (pc' := 24) C 0 dX9_isForm_23 rfl rfl rfl ?_
      refine g_get (pc' := 27) C fl_RX9_63_8 0 rfl rfl dX9_isForm_24 rfl ?_
      refine g_if_neN (pc' := 30) (tgt := 43) C (by first | assumption | omega) dX9_isForm_27 (by decide) rfl (fun z => absurd z (by decide)) (fun _ => ?_)
      obtain ⟨w9, -, hw9, rfl⟩ := inZ_w c_5_2 (by decide)
      obtain ⟨w8, -, hw8, rfl⟩ := inZ_w c_12_5 (by decide)
      refine g_aload_n (pc' := 31) C 0 dX9_isForm_30 rfl rfl rfl ?_
      refine g_iload_n (pc' := 32) C 1 dX9_isForm_31 rfl rfl rfl ?_
      refine g_iload_n (pc' := 33) C 2 dX9_isForm_32 rfl rfl rfl ?_
      refine g_callP (pc' := 36) C lk_RX9_80 (kX9_forms l κ u0 u1 u2 u3 u4 u5 u6 u7 u8 u9 ua ub uc ud ue uf ug 0 n ds mc len ba sm dy fk fs w9 w8 (by first | assumption | omega) (by first | assumption | omega) (by first | assumption | omega)) 0 rfl rfl [0, 1, 2] rfl rfl (Nat.le_of_ble_eq_true rfl) ⟨Nat.le_of_ble_eq_true rfl, Nat.le_of_ble_eq_true rfl⟩ ⟨Nat.le_of_ble_eq_true rfl, Nat.le_of_ble_eq_true rfl⟩ rfl dX9_isForm_33 rfl (fun r_33_8 h_33_8 => ?_)
      obtain rfl : r_33_8 = b2i (fm n fk fs w9 w8) := h_33_8
      refine g_if_eqB (pc' := 39) (tgt := 43) C dX9_isForm_36 (by decide) rfl (fun c_36_9 => ?_) (fun c_36_9 => ?_)
      · refine g_iconst (pc' := 44) (v := nI 0) C dX9_isForm_43 (by decide) rfl ?_
        have hc9 : c_isForm (nI w9) (nI w8) = 0 := by simp [c_isForm, *] <;> omega
        exact g_retMi C hAe rfl rfl (Nat.le_of_ble_eq_true rfl) (Nat.le_of_ble_eq_true rfl) (⟨by rw [hc9] <;> (try simp only [n9_nI (show w9 < 2147483648 by omega), n9_nI (show w8 < 2147483648 by omega), c_36_9]) <;> rfl, by rw [hc9] <;> (try simp only [n9_nI (show w9 < 2147483648 by omega), n9_nI (show w8 < 2147483648 by omega), c_36_9]) <;> rfl⟩) dX9_isForm_44
      · refine g_iconst (pc' := 40) (v := nI 1) C dX9_isForm_39 (by decide) rfl ?_
        refine g_goto (tgt := 44) C dX9_isForm_40 (by decide) ?_
        have hc9 : c_isForm (nI w9) (nI w8) = 0 := by simp [c_isForm, *] <;> omega
        exact g_retMi C hAe rfl rfl (Nat.le_of_ble_eq_true rfl) (Nat.le_of_ble_eq_true rfl) (⟨by rw [hc9] <;> (try simp only [n9_nI (show w9 < 2147483648 by omega), n9_nI (show w8 < 2147483648 by omega), c_36_9]) <;> rfl, by rw [hc9] <;> (try simp only [n9_nI (show w9 < 2147483648 by omega), n9_nI (show w8 < 2147483648 by omega), c_36_9]) <;> rfl⟩) dX9_isForm_44

set_option maxHeartbeats 4000000 in
set_option maxRecDepth 100000 in
theorem kX9_part (l : Launch) (κ : KK) (u0 : Nat) (u1 : Nat) (u2 : Nat) (u3 : Nat) (u4 : Nat) (u5 : Nat) (u6 : Nat) (u7 : Nat) (u8 : Nat) (u9 : Nat) (ua : Nat) (ub : Nat) (uc : Nat) (ud : Nat) (ue : Nat) (uf : Nat) (ug : Nat) (t9 : Nat) (n : Nat) (ds : Nat) (mc : Nat) (len : Nat) (ba : Nat) (sm : Nat) (dy : Nat) (dr : Nat → Option Nat) (p0 : Int32) (hd : ds ≤ 4) : CMi l yX9_part cX9_part 2 (some .int) 2 0 0 κ [.ref u0, .int p0] [(u0, .inr (8, [.int (nI t9), .int (nI n), .ref u1, .ref u2, .int (nI ds), .ref u3, .int (nI mc), .ref u4, .ref u5, .ref u6, .ref u7, .ref u8, .int (nI len), .ref u9, .int (nI ba), .int (nI sm), .ref ua, .ref ub, .ref uc, .ref ud, .ref ue, .int (nI dy), .ref uf, .ref ug])), (u3, .inl (κ.2 0, 4, .inl (oA dr)))] (fun (vr_ : Int32) (vw_ : va_W) => vr_ = nI (if c_part p0 ds = 0 then ds + 1 else 0) ∧ vw_ = [(u0, .inr (8, [.int (nI (c_part p0 ds)), .int (nI n), .ref u1, .ref u2, .int (nI (if c_part p0 ds = 0 then ds + 1 else ds)), .ref u3, .int (nI mc), .ref u4, .ref u5, .ref u6, .ref u7, .ref u8, .int (nI len), .ref u9, .int (nI ba), .int (nI sm), .ref ua, .ref ub, .ref uc, .ref ud, .ref ue, .int (nI dy), .ref uf, .ref ug])), (u3, .inl (κ.2 0, 4, .inl (oA (if c_part p0 ds = 0 then va_up dr ds (oP p0) else dr))))]) := by
  refine cmi_of RX9 rfl (by decide) (Nat.le_of_ble_eq_true rfl) ?_
  intro p e s m below meth c A C hAe hA hini
  refine g_lv (lv' := [(0, .ref u0), (1, .int p0)]) [0, 1] rfl ?_
  refine g_aload_n (pc' := 1) C 0 dX9_part_0 rfl rfl rfl ?_
  refine g_iload_n (pc' := 2) C 1 dX9_part_1 rfl rfl rfl ?_
  refine g_iconst (pc' := 3) (v := (-1)) C dX9_part_2 (by decide) rfl ?_
  refine g_icmp_eq (pc' := 6) (tgt := 17) C dX9_part_3 (by decide) rfl (fun c_3_1 => ?_) (fun c_3_1 => ?_)
  · refine g_aload_n (pc' := 18) C 0 dX9_part_17 rfl rfl rfl ?_
    refine g_get (pc' := 21) C fl_RX9_84_8 0 rfl rfl dX9_part_18 rfl ?_
    refine g_iconst (pc' := 22) (v := nI 4) C dX9_part_21 (by decide) rfl ?_
    refine g_icmp_eqN (pc' := 25) (tgt := 37) C (by first | assumption | omega) (by first | assumption | omega) dX9_part_22 (by decide) rfl (fun c_22_2 => ?_) (fun c_22_2 => ?_)
    · refine g_iconst (pc' := 38) (v := nI 2) C dX9_part_37 (by decide) rfl ?_
      refine g_goto (tgt := 42) C dX9_part_38 (by decide) ?_
      refine g_put (pc' := 45) (ws' := [(u0, .inr (8, [.int (nI 2), .int (nI n), .ref u1, .ref u2, .int (nI ds), .ref u3, .int (nI mc), .ref u4, .ref u5, .ref u6, .ref u7, .ref u8, .int (nI len), .ref u9, .int (nI ba), .int (nI sm), .ref ua, .ref ub, .ref uc, .ref ud, .ref ue, .int (nI dy), .ref uf, .ref ug])), (u3, .inl (κ.2 0, 4, .inl (oA dr)))]) C fp_RX9_63_8 0 rfl rfl rfl (Nat.le_of_ble_eq_true rfl) rfl dX9_part_42 rfl ?_
      refine g_aload_n (pc' := 46) C 0 dX9_part_45 rfl rfl rfl ?_
      refine g_get (pc' := 49) C fl_RX9_63_8 0 rfl rfl dX9_part_46 rfl ?_
      refine g_if_leN (pc' := 52) (tgt := 54) C (by first | assumption | omega) dX9_part_49 (by decide) rfl (fun z => absurd z (by decide)) (fun _ => ?_)
      refine g_iconst (pc' := 53) (v := nI 0) C dX9_part_52 (by decide) rfl ?_
      have hc9 : c_part p0 ds = 2 := by rw [c_part, if_neg (fun q => q.1 c_3_1), if_pos (by omega)]
      exact g_retMi C hAe rfl rfl (Nat.le_of_ble_eq_true rfl) (Nat.le_of_ble_eq_true rfl) (⟨by rw [hc9] <;> rfl, by rw [hc9] <;> rfl⟩) dX9_part_53
    · refine g_iload_n (pc' := 26) C 1 dX9_part_25 rfl rfl rfl ?_
      refine g_iconst (pc' := 27) (v := (-1)) C dX9_part_26 (by decide) rfl ?_
      refine g_icmp_ne (pc' := 30) (tgt := 41) C dX9_part_27 (by decide) rfl (fun c_27_4 => absurd c_27_4 (by exact fun q => q c_3_1)) (fun c_27_4 => ?_)
      refine g_aload_n (pc' := 31) C 0 dX9_part_30 rfl rfl rfl ?_
      refine g_get (pc' := 34) C fl_RX9_84_8 0 rfl rfl dX9_part_31 rfl ?_
      refine g_if_neN (pc' := 37) (tgt := 41) C (by first | assumption | omega) dX9_part_34 (by decide) rfl (fun c_34_5 => ?_) (fun c_34_5 => ?_)
      · refine g_iconst (pc' := 42) (v := nI 0) C dX9_part_41 (by decide) rfl ?_
        refine g_put (pc' := 45) (ws' := [(u0, .inr (8, [.int (nI 0), .int (nI n), .ref u1, .ref u2, .int (nI ds), .ref u3, .int (nI mc), .ref u4, .ref u5, .ref u6, .ref u7, .ref u8, .int (nI len), .ref u9, .int (nI ba), .int (nI sm), .ref ua, .ref ub, .ref uc, .ref ud, .ref ue, .int (nI dy), .ref uf, .ref ug])), (u3, .inl (κ.2 0, 4, .inl (oA dr)))]) C fp_RX9_63_8 0 rfl rfl rfl (Nat.le_of_ble_eq_true rfl) rfl dX9_part_42 rfl ?_
        refine g_aload_n (pc' := 46) C 0 dX9_part_45 rfl rfl rfl ?_
        refine g_get (pc' := 49) C fl_RX9_63_8 0 rfl rfl dX9_part_46 rfl ?_
        refine g_if_leN (pc' := 52) (tgt := 54) C (by first | assumption | omega) dX9_part_49 (by decide) rfl (fun _ => ?_) (fun z => absurd z (by decide))
        obtain rfl : p0 = -1 := c_3_1
        refine g_aload_n (pc' := 55) C 0 dX9_part_54 rfl rfl rfl ?_
        refine g_get (pc' := 58) C fl_RX9_16_8 0 rfl rfl dX9_part_55 rfl ?_
        refine g_aload_n (pc' := 59) C 0 dX9_part_58 rfl rfl rfl ?_
        refine g_get (pc' := 62) C fl_RX9_84_8 0 rfl rfl dX9_part_59 rfl ?_
        refine g_iload_n (pc' := 63) C 1 dX9_part_62 rfl rfl rfl ?_
        refine g_iastO (pc' := 64) (x := none) (ws' := [(u0, .inr (8, [.int (nI 0), .int (nI n), .ref u1, .ref u2, .int (nI ds), .ref u3, .int (nI mc), .ref u4, .ref u5, .ref u6, .ref u7, .ref u8, .int (nI len), .ref u9, .int (nI ba), .int (nI sm), .ref ua, .ref ub, .ref uc, .ref ud, .ref ue, .int (nI dy), .ref uf, .ref ug])), (u3, .inl (κ.2 0, 4, .inl (oA (va_up dr ds none))))]) C 1 rfl rfl ds (by first | assumption | omega) (by decide) rfl dX9_part_63 rfl ?_
        refine g_aload_n (pc' := 65) C 0 dX9_part_64 rfl rfl rfl ?_
        refine g_dup (pc' := 66) C dX9_part_65 rfl rfl ?_
        refine g_get (pc' := 69) C fl_RX9_84_8 0 rfl rfl dX9_part_66 rfl ?_
        refine g_iconst (pc' := 70) (v := nI 1) C dX9_part_69 (by decide) rfl ?_
        refine g_iadd (pc' := 71) (v := nI (ds + 1)) C dX9_part_70 (nI_add _ _) rfl ?_
        refine g_put (pc' := 74) (ws' := [(u0, .inr (8, [.int (nI 0), .int (nI n), .ref u1, .ref u2, .int (nI (ds + 1)), .ref u3, .int (nI mc), .ref u4, .ref u5, .ref u6, .ref u7, .ref u8, .int (nI len), .ref u9, .int (nI ba), .int (nI sm), .ref ua, .ref ub, .ref uc, .ref ud, .ref ue, .int (nI dy), .ref uf, .ref ug])), (u3, .inl (κ.2 0, 4, .inl (oA (va_up dr ds none))))]) C fp_RX9_84_8 0 rfl rfl rfl (Nat.le_of_ble_eq_true rfl) rfl dX9_part_71 rfl ?_
        refine g_aload_n (pc' := 75) C 0 dX9_part_74 rfl rfl rfl ?_
        refine g_get (pc' := 78) C fl_RX9_84_8 0 rfl rfl dX9_part_75 rfl ?_
        have hc9 : c_part (-1) ds = 0 := by rw [c_part, if_neg (fun q => q.1 rfl), if_neg (by omega)]
        exact g_retMi C hAe rfl rfl (Nat.le_of_ble_eq_true rfl) (Nat.le_of_ble_eq_true rfl) (⟨by rw [hc9] <;> rfl, by rw [hc9] <;> rfl⟩) dX9_part_78
      · refine g_iconst (pc' := 38) (v := nI 2) C dX9_part_37 (by decide) rfl ?_
        refine g_goto (tgt := 42) C dX9_part_38 (by decide) ?_
        refine g_put (pc' := 45) (ws' := [(u0, .inr (8, [.int (nI 2), .int (nI n), .ref u1, .ref u2, .int (nI ds), .ref u3, .int (nI mc), .ref u4, .ref u5, .ref u6, .ref u7, .ref u8, .int (nI len), .ref u9, .int (nI ba), .int (nI sm), .ref ua, .ref ub, .ref uc, .ref ud, .ref ue, .int (nI dy), .ref uf, .ref ug])), (u3, .inl (κ.2 0, 4, .inl (oA dr)))]) C fp_RX9_63_8 0 rfl rfl rfl (Nat.le_of_ble_eq_true rfl) rfl dX9_part_42 rfl ?_
        refine g_aload_n (pc' := 46) C 0 dX9_part_45 rfl rfl rfl ?_
        refine g_get (pc' := 49) C fl_RX9_63_8 0 rfl rfl dX9_part_46 rfl ?_
        refine g_if_leN (pc' := 52) (tgt := 54) C (by first | assumption | omega) dX9_part_49 (by decide) rfl (fun z => absurd z (by decide)) (fun _ => ?_)
        refine g_iconst (pc' := 53) (v := nI 0) C dX9_part_52 (by decide) rfl ?_
        have hc9 : c_part p0 ds = 2 := by rw [c_part, if_neg (fun q => q.1 c_3_1), if_pos (Or.inr ⟨c_3_1, by omega⟩)]
        exact g_retMi C hAe rfl rfl (Nat.le_of_ble_eq_true rfl) (Nat.le_of_ble_eq_true rfl) (⟨by rw [hc9] <;> rfl, by rw [hc9] <;> rfl⟩) dX9_part_53
  · refine g_iload_n (pc' := 7) C 1 dX9_part_6 rfl rfl rfl ?_
    refine g_callPS (pc' := 10) C lk_RX9_76 (kX9_isWord l κ p0) [] rfl rfl (Nat.le_of_ble_eq_true rfl) ⟨Nat.le_of_ble_eq_true rfl, Nat.le_of_ble_eq_true rfl⟩ ⟨Nat.le_of_ble_eq_true rfl, Nat.le_of_ble_eq_true rfl⟩ rfl dX9_part_7 rfl (fun r_7_8 h_7_8 => ?_)
    obtain rfl : r_7_8 = b2i (inZ 0 99 p0) := h_7_8
    refine g_if_neB (pc' := 13) (tgt := 17) C dX9_part_10 (by decide) rfl (fun c_10_9 => ?_) (fun c_10_9 => ?_)
    · refine g_aload_n (pc' := 18) C 0 dX9_part_17 rfl rfl rfl ?_
      refine g_get (pc' := 21) C fl_RX9_84_8 0 rfl rfl dX9_part_18 rfl ?_
      refine g_iconst (pc' := 22) (v := nI 4) C dX9_part_21 (by decide) rfl ?_
      refine g_icmp_eqN (pc' := 25) (tgt := 37) C (by first | assumption | omega) (by first | assumption | omega) dX9_part_22 (by decide) rfl (fun c_22_10 => ?_) (fun c_22_10 => ?_)
      · refine g_iconst (pc' := 38) (v := nI 2) C dX9_part_37 (by decide) rfl ?_
        refine g_goto (tgt := 42) C dX9_part_38 (by decide) ?_
        refine g_put (pc' := 45) (ws' := [(u0, .inr (8, [.int (nI 2), .int (nI n), .ref u1, .ref u2, .int (nI ds), .ref u3, .int (nI mc), .ref u4, .ref u5, .ref u6, .ref u7, .ref u8, .int (nI len), .ref u9, .int (nI ba), .int (nI sm), .ref ua, .ref ub, .ref uc, .ref ud, .ref ue, .int (nI dy), .ref uf, .ref ug])), (u3, .inl (κ.2 0, 4, .inl (oA dr)))]) C fp_RX9_63_8 0 rfl rfl rfl (Nat.le_of_ble_eq_true rfl) rfl dX9_part_42 rfl ?_
        refine g_aload_n (pc' := 46) C 0 dX9_part_45 rfl rfl rfl ?_
        refine g_get (pc' := 49) C fl_RX9_63_8 0 rfl rfl dX9_part_46 rfl ?_
        refine g_if_leN (pc' := 52) (tgt := 54) C (by first | assumption | omega) dX9_part_49 (by decide) rfl (fun z => absurd z (by decide)) (fun _ => ?_)
        refine g_iconst (pc' := 53) (v := nI 0) C dX9_part_52 (by decide) rfl ?_
        have hc9 : c_part p0 ds = 2 := by rw [c_part, if_neg (fun q => by rw [c_10_9] at q; cases q.2), if_pos (by omega)]
        exact g_retMi C hAe rfl rfl (Nat.le_of_ble_eq_true rfl) (Nat.le_of_ble_eq_true rfl) (⟨by rw [hc9] <;> rfl, by rw [hc9] <;> rfl⟩) dX9_part_53
      · refine g_iload_n (pc' := 26) C 1 dX9_part_25 rfl rfl rfl ?_
        refine g_iconst (pc' := 27) (v := (-1)) C dX9_part_26 (by decide) rfl ?_
        refine g_icmp_ne (pc' := 30) (tgt := 41) C dX9_part_27 (by decide) rfl (fun c_27_12 => ?_) (fun c_27_12 => absurd c_27_12 (by exact c_3_1))
        refine g_iconst (pc' := 42) (v := nI 0) C dX9_part_41 (by decide) rfl ?_
        refine g_put (pc' := 45) (ws' := [(u0, .inr (8, [.int (nI 0), .int (nI n), .ref u1, .ref u2, .int (nI ds), .ref u3, .int (nI mc), .ref u4, .ref u5, .ref u6, .ref u7, .ref u8, .int (nI len), .ref u9, .int (nI ba), .int (nI sm), .ref ua, .ref ub, .ref uc, .ref ud, .ref ue, .int (nI dy), .ref uf, .ref ug])), (u3, .inl (κ.2 0, 4, .inl (oA dr)))]) C fp_RX9_63_8 0 rfl rfl rfl (Nat.le_of_ble_eq_true rfl) rfl dX9_part_42 rfl ?_
        refine g_aload_n (pc' := 46) C 0 dX9_part_45 rfl rfl rfl ?_
        refine g_get (pc' := 49) C fl_RX9_63_8 0 rfl rfl dX9_part_46 rfl ?_
        refine g_if_leN (pc' := 52) (tgt := 54) C (by first | assumption | omega) dX9_part_49 (by decide) rfl (fun _ => ?_) (fun z => absurd z (by decide))
        obtain ⟨w9, -, hw9, rfl⟩ := inZ_w c_10_9 (by decide)
        refine g_aload_n (pc' := 55) C 0 dX9_part_54 rfl rfl rfl ?_
        refine g_get (pc' := 58) C fl_RX9_16_8 0 rfl rfl dX9_part_55 rfl ?_
        refine g_aload_n (pc' := 59) C 0 dX9_part_58 rfl rfl rfl ?_
        refine g_get (pc' := 62) C fl_RX9_84_8 0 rfl rfl dX9_part_59 rfl ?_
        refine g_iload_n (pc' := 63) C 1 dX9_part_62 rfl rfl rfl ?_
        refine g_iastO (pc' := 64) (x := some w9) (ws' := [(u0, .inr (8, [.int (nI 0), .int (nI n), .ref u1, .ref u2, .int (nI ds), .ref u3, .int (nI mc), .ref u4, .ref u5, .ref u6, .ref u7, .ref u8, .int (nI len), .ref u9, .int (nI ba), .int (nI sm), .ref ua, .ref ub, .ref uc, .ref ud, .ref ue, .int (nI dy), .ref uf, .ref ug])), (u3, .inl (κ.2 0, 4, .inl (oA (va_up dr ds (some w9)))))]) C 1 rfl rfl ds (by first | assumption | omega) (by decide) rfl dX9_part_63 rfl ?_
        refine g_aload_n (pc' := 65) C 0 dX9_part_64 rfl rfl rfl ?_
        refine g_dup (pc' := 66) C dX9_part_65 rfl rfl ?_
        refine g_get (pc' := 69) C fl_RX9_84_8 0 rfl rfl dX9_part_66 rfl ?_
        refine g_iconst (pc' := 70) (v := nI 1) C dX9_part_69 (by decide) rfl ?_
        refine g_iadd (pc' := 71) (v := nI (ds + 1)) C dX9_part_70 (nI_add _ _) rfl ?_
        refine g_put (pc' := 74) (ws' := [(u0, .inr (8, [.int (nI 0), .int (nI n), .ref u1, .ref u2, .int (nI (ds + 1)), .ref u3, .int (nI mc), .ref u4, .ref u5, .ref u6, .ref u7, .ref u8, .int (nI len), .ref u9, .int (nI ba), .int (nI sm), .ref ua, .ref ub, .ref uc, .ref ud, .ref ue, .int (nI dy), .ref uf, .ref ug])), (u3, .inl (κ.2 0, 4, .inl (oA (va_up dr ds (some w9)))))]) C fp_RX9_84_8 0 rfl rfl rfl (Nat.le_of_ble_eq_true rfl) rfl dX9_part_71 rfl ?_
        refine g_aload_n (pc' := 75) C 0 dX9_part_74 rfl rfl rfl ?_
        refine g_get (pc' := 78) C fl_RX9_84_8 0 rfl rfl dX9_part_75 rfl ?_
        have hc9 : c_part (nI w9) ds = 0 := by rw [c_part, if_neg (fun q => by rw [c_10_9] at q; cases q.2), if_neg (fun q => q.elim (fun q => by omega) (fun q => nI_m1 (by omega) q.1))]
        exact g_retMi C hAe rfl rfl (Nat.le_of_ble_eq_true rfl) (Nat.le_of_ble_eq_true rfl) (⟨by rw [hc9] <;> (try simp only [oP_nI (show w9 < 2147483648 by omega)]) <;> rfl, by rw [hc9] <;> (try simp only [oP_nI (show w9 < 2147483648 by omega)]) <;> rfl⟩) dX9_part_78
    · refine g_iconst (pc' := 14) (v := nI 1) C dX9_part_13 (by decide) rfl ?_
      refine g_goto (tgt := 42) C dX9_part_14 (by decide) ?_
      refine g_put (pc' := 45) (ws' := [(u0, .inr (8, [.int (nI 1), .int (nI n), .ref u1, .ref u2, .int (nI ds), .ref u3, .int (nI mc), .ref u4, .ref u5, .ref u6, .ref u7, .ref u8, .int (nI len), .ref u9, .int (nI ba), .int (nI sm), .ref ua, .ref ub, .ref uc, .ref ud, .ref ue, .int (nI dy), .ref uf, .ref ug])), (u3, .inl (κ.2 0, 4, .inl (oA dr)))]) C fp_RX9_63_8 0 rfl rfl rfl (Nat.le_of_ble_eq_true rfl) rfl dX9_part_42 rfl ?_
      refine g_aload_n (pc' := 46) C 0 dX9_part_45 rfl rfl rfl ?_
      refine g_get (pc' := 49) C fl_RX9_63_8 0 rfl rfl dX9_part_46 rfl ?_
      refine g_if_leN (pc' := 52) (tgt := 54) C (by first | assumption | omega) dX9_part_49 (by decide) rfl (fun z => absurd z (by decide)) (fun _ => ?_)
      refine g_iconst (pc' := 53) (v := nI 0) C dX9_part_52 (by decide) rfl ?_
      have hc9 : c_part p0 ds = 1 := by rw [c_part, if_pos ⟨c_3_1, c_10_9⟩]
      exact g_retMi C hAe rfl rfl (Nat.le_of_ble_eq_true rfl) (Nat.le_of_ble_eq_true rfl) (⟨by rw [hc9] <;> rfl, by rw [hc9] <;> rfl⟩) dX9_part_53

set_option maxHeartbeats 4000000 in
set_option maxRecDepth 100000 in
theorem kX9_makes (l : Launch) (κ : KK) (u0 : Nat) (u1 : Nat) (u2 : Nat) (u3 : Nat) (u4 : Nat) (u5 : Nat) (u6 : Nat) (u7 : Nat) (u8 : Nat) (u9 : Nat) (ua : Nat) (ub : Nat) (uc : Nat) (ud : Nat) (ue : Nat) (uf : Nat) (ug : Nat) (t9 : Nat) (n : Nat) (ds : Nat) (mc : Nat) (len : Nat) (ba : Nat) (sm : Nat) (dy : Nat) (th : Nat → Bool) (ck : Nat → Nat) (rc : Nat → Option Nat) (kc : Nat) (rr : Option Nat) (hm : mc < 8) : CMi l yX9_makes cX9_makes 3 (some .int) 0 0 0 κ [.ref u0, .int (nI kc), .int (oI rr)] [(u0, .inr (8, [.int (nI t9), .int (nI n), .ref u1, .ref u2, .int (nI ds), .ref u3, .int (nI mc), .ref u4, .ref u5, .ref u6, .ref u7, .ref u8, .int (nI len), .ref u9, .int (nI ba), .int (nI sm), .ref ua, .ref ub, .ref uc, .ref ud, .ref ue, .int (nI dy), .ref uf, .ref ug])), (u4, .inl (κ.2 1, 8, .inl (zA th))), (u5, .inl (κ.2 0, 8, .inl (nA ck))), (u6, .inl (κ.2 0, 8, .inl (oA rc)))] (fun (vr_ : Int32) (vw_ : va_W) => vr_ = nI mc ∧ vw_ = [(u0, .inr (8, [.int (nI t9), .int (nI n), .ref u1, .ref u2, .int (nI ds), .ref u3, .int (nI (mc + 1)), .ref u4, .ref u5, .ref u6, .ref u7, .ref u8, .int (nI len), .ref u9, .int (nI ba), .int (nI sm), .ref ua, .ref ub, .ref uc, .ref ud, .ref ue, .int (nI dy), .ref uf, .ref ug])), (u4, .inl (κ.2 1, 8, .inl (zA (va_up th mc true)))), (u5, .inl (κ.2 0, 8, .inl (nA (va_up ck mc kc)))), (u6, .inl (κ.2 0, 8, .inl (oA (va_up rc mc rr))))]) := by
  refine cmi_of RX9 rfl (by decide) (Nat.le_of_ble_eq_true rfl) ?_
  intro p e s m below meth c A C hAe hA hini
  refine g_lv (lv' := [(0, .ref u0), (1, .int (nI kc)), (2, .int (oI rr))]) [0, 1, 2] rfl ?_
  refine g_aload_n (pc' := 1) C 0 dX9_makes_0 rfl rfl rfl ?_
  refine g_get (pc' := 4) C fl_RX9_19_8 0 rfl rfl dX9_makes_1 rfl ?_
  refine g_aload_n (pc' := 5) C 0 dX9_makes_4 rfl rfl rfl ?_
  refine g_get (pc' := 8) C fl_RX9_70_8 0 rfl rfl dX9_makes_5 rfl ?_
  refine g_iconst (pc' := 9) (v := nI 1) C dX9_makes_8 (by decide) rfl ?_
  refine g_zastB (pc' := 10) (ws' := [(u0, .inr (8, [.int (nI t9), .int (nI n), .ref u1, .ref u2, .int (nI ds), .ref u3, .int (nI mc), .ref u4, .ref u5, .ref u6, .ref u7, .ref u8, .int (nI len), .ref u9, .int (nI ba), .int (nI sm), .ref ua, .ref ub, .ref uc, .ref ud, .ref ue, .int (nI dy), .ref uf, .ref ug])), (u4, .inl (κ.2 1, 8, .inl (zA (va_up th mc true)))), (u5, .inl (κ.2 0, 8, .inl (nA ck))), (u6, .inl (κ.2 0, 8, .inl (oA rc)))]) C 1 true (by rfl) rfl mc (by first | assumption | omega) (by decide) rfl dX9_makes_9 rfl ?_
  refine g_aload_n (pc' := 11) C 0 dX9_makes_10 rfl rfl rfl ?_
  refine g_get (pc' := 14) C fl_RX9_23_8 0 rfl rfl dX9_makes_11 rfl ?_
  refine g_aload_n (pc' := 15) C 0 dX9_makes_14 rfl rfl rfl ?_
  refine g_get (pc' := 18) C fl_RX9_70_8 0 rfl rfl dX9_makes_15 rfl ?_
  refine g_iload_n (pc' := 19) C 1 dX9_makes_18 rfl rfl rfl ?_
  refine g_iastN (pc' := 20) (ws' := [(u0, .inr (8, [.int (nI t9), .int (nI n), .ref u1, .ref u2, .int (nI ds), .ref u3, .int (nI mc), .ref u4, .ref u5, .ref u6, .ref u7, .ref u8, .int (nI len), .ref u9, .int (nI ba), .int (nI sm), .ref ua, .ref ub, .ref uc, .ref ud, .ref ue, .int (nI dy), .ref uf, .ref ug])), (u4, .inl (κ.2 1, 8, .inl (zA (va_up th mc true)))), (u5, .inl (κ.2 0, 8, .inl (nA (va_up ck mc kc)))), (u6, .inl (κ.2 0, 8, .inl (oA rc)))]) C 2 rfl mc (by first | assumption | omega) (by decide) rfl dX9_makes_19 rfl ?_
  refine g_aload_n (pc' := 21) C 0 dX9_makes_20 rfl rfl rfl ?_
  refine g_get (pc' := 24) C fl_RX9_26_8 0 rfl rfl dX9_makes_21 rfl ?_
  refine g_aload_n (pc' := 25) C 0 dX9_makes_24 rfl rfl rfl ?_
  refine g_get (pc' := 28) C fl_RX9_70_8 0 rfl rfl dX9_makes_25 rfl ?_
  refine g_iload_n (pc' := 29) C 2 dX9_makes_28 rfl rfl rfl ?_
  refine g_iastO (pc' := 30) (x := rr) (ws' := [(u0, .inr (8, [.int (nI t9), .int (nI n), .ref u1, .ref u2, .int (nI ds), .ref u3, .int (nI mc), .ref u4, .ref u5, .ref u6, .ref u7, .ref u8, .int (nI len), .ref u9, .int (nI ba), .int (nI sm), .ref ua, .ref ub, .ref uc, .ref ud, .ref ue, .int (nI dy), .ref uf, .ref ug])), (u4, .inl (κ.2 1, 8, .inl (zA (va_up th mc true)))), (u5, .inl (κ.2 0, 8, .inl (nA (va_up ck mc kc)))), (u6, .inl (κ.2 0, 8, .inl (oA (va_up rc mc rr))))]) C 3 rfl rfl mc (by first | assumption | omega) (by decide) rfl dX9_makes_29 rfl ?_
  refine g_aload_n (pc' := 31) C 0 dX9_makes_30 rfl rfl rfl ?_
  refine g_dup (pc' := 32) C dX9_makes_31 rfl rfl ?_
  refine g_get (pc' := 35) C fl_RX9_70_8 0 rfl rfl dX9_makes_32 rfl ?_
  refine g_iconst (pc' := 36) (v := nI 1) C dX9_makes_35 (by decide) rfl ?_
  refine g_iadd (pc' := 37) (v := nI (mc + 1)) C dX9_makes_36 (nI_add _ _) rfl ?_
  refine g_put (pc' := 40) (ws' := [(u0, .inr (8, [.int (nI t9), .int (nI n), .ref u1, .ref u2, .int (nI ds), .ref u3, .int (nI (mc + 1)), .ref u4, .ref u5, .ref u6, .ref u7, .ref u8, .int (nI len), .ref u9, .int (nI ba), .int (nI sm), .ref ua, .ref ub, .ref uc, .ref ud, .ref ue, .int (nI dy), .ref uf, .ref ug])), (u4, .inl (κ.2 1, 8, .inl (zA (va_up th mc true)))), (u5, .inl (κ.2 0, 8, .inl (nA (va_up ck mc kc)))), (u6, .inl (κ.2 0, 8, .inl (oA (va_up rc mc rr))))]) C fp_RX9_70_8 0 rfl rfl rfl (Nat.le_of_ble_eq_true rfl) rfl dX9_makes_37 rfl ?_
  refine g_aload_n (pc' := 41) C 0 dX9_makes_40 rfl rfl rfl ?_
  refine g_get (pc' := 44) C fl_RX9_70_8 0 rfl rfl dX9_makes_41 rfl ?_
  refine g_iconst (pc' := 45) (v := nI 1) C dX9_makes_44 (by decide) rfl ?_
  refine g_isub (pc' := 46) (v := nI mc) C dX9_makes_45 (pk_sub (Nat.le_add_left 1 _)) rfl ?_
  exact g_retMi C hAe rfl rfl (Nat.le_of_ble_eq_true rfl) (Nat.le_of_ble_eq_true rfl) (⟨rfl, rfl⟩) dX9_makes_46

set_option maxHeartbeats 4000000 in
set_option maxRecDepth 100000 in
theorem kX9_addPhrase (l : Launch) (κ : KK) (u0 : Nat) (u1 : Nat) (u2 : Nat) (u3 : Nat) (u4 : Nat) (u5 : Nat) (u6 : Nat) (u7 : Nat) (u8 : Nat) (u9 : Nat) (ua : Nat) (ub : Nat) (uc : Nat) (ud : Nat) (ue : Nat) (uf : Nat) (ug : Nat) (t9 : Nat) (n : Nat) (ds : Nat) (mc : Nat) (len : Nat) (ba : Nat) (sm : Nat) (dy : Nat) (dr : Nat → Option Nat) (th : Nat → Bool) (ck : Nat → Nat) (rc : Nat → Option Nat) (pm : Nat → Nat) (pf : Nat → Option Nat) (p0 : Int32) (hd : ds ≤ 4) (hm : mc ≤ 8) (hdr : ∀ i h, dr i = some h → h < 100) : CMi l yX9_addPhrase cX9_addPhrase 3 (some .int) 2 0 0 κ [.ref u0, .int p0] [(u0, .inr (8, [.int (nI t9), .int (nI n), .ref u1, .ref u2, .int (nI ds), .ref u3, .int (nI mc), .ref u4, .ref u5, .ref u6, .ref u7, .ref u8, .int (nI len), .ref u9, .int (nI ba), .int (nI sm), .ref ua, .ref ub, .ref uc, .ref ud, .ref ue, .int (nI dy), .ref uf, .ref ug])), (u3, .inl (κ.2 0, 4, .inl (oA dr))), (u4, .inl (κ.2 1, 8, .inl (zA th))), (u5, .inl (κ.2 0, 8, .inl (nA ck))), (u6, .inl (κ.2 0, 8, .inl (oA rc))), (u7, .inl (κ.2 0, 8, .inl (nA pm))), (u8, .inl (κ.2 0, 32, .inl (oA pf)))] (fun (vr_ : Int32) (vw_ : va_W) => vr_ = nI (if c_addPhrase p0 ds dr mc = 0 then mc else 0) ∧ vw_ = [(u0, .inr (8, [.int (nI (c_addPhrase p0 ds dr mc)), .int (nI n), .ref u1, .ref u2, .int (nI (if c_addPhrase p0 ds dr mc = 0 then 0 else ds)), .ref u3, .int (nI (if c_addPhrase p0 ds dr mc = 0 then mc + 1 else mc)), .ref u4, .ref u5, .ref u6, .ref u7, .ref u8, .int (nI len), .ref u9, .int (nI ba), .int (nI sm), .ref ua, .ref ub, .ref uc, .ref ud, .ref ue, .int (nI dy), .ref uf, .ref ug])), (u3, .inl (κ.2 0, 4, .inl (oA dr))), (u4, .inl (κ.2 1, 8, .inl (zA (if c_addPhrase p0 ds dr mc = 0 then va_up th mc true else th)))), (u5, .inl (κ.2 0, 8, .inl (nA (if c_addPhrase p0 ds dr mc = 0 then va_up ck mc (n9 p0) else ck)))), (u6, .inl (κ.2 0, 8, .inl (oA (if c_addPhrase p0 ds dr mc = 0 then va_up rc mc none else rc)))), (u7, .inl (κ.2 0, 8, .inl (nA (if c_addPhrase p0 ds dr mc = 0 then va_up pm mc ds else pm)))), (u8, .inl (κ.2 0, 32, .inl (oA (if c_addPhrase p0 ds dr mc = 0 then cpf pf dr mc ds else pf))))]) := by
  refine cmi_of RX9 rfl (by decide) (Nat.le_of_ble_eq_true rfl) ?_
  intro p e s m below meth c A C hAe hA hini
  refine g_lv (lv' := [(0, .ref u0), (1, .int p0)]) [0, 1] rfl ?_
  refine g_aload_n (pc' := 1) C 0 dX9_addPhrase_0 rfl rfl rfl ?_
  refine g_iload_n (pc' := 2) C 1 dX9_addPhrase_1 rfl rfl rfl ?_
  refine g_iconst (pc' := 3) (v := nI 1) C dX9_addPhrase_2 (by decide) rfl ?_
  refine g_bipush (pc' := 5) (v := nI 20) C dX9_addPhrase_3 (by decide) rfl ?_
  refine g_callPS (pc' := 8) C lk_RX9_66 (kX9_in_1_20 l κ p0) [] rfl rfl (Nat.le_of_ble_eq_true rfl) ⟨Nat.le_of_ble_eq_true rfl, Nat.le_of_ble_eq_true rfl⟩ ⟨Nat.le_of_ble_eq_true rfl, Nat.le_of_ble_eq_true rfl⟩ rfl dX9_addPhrase_5 rfl (fun r_5_1 h_5_1 => ?_)
  obtain rfl : r_5_1 = b2i (inZ 1 20 p0) := h_5_1
  refine g_if_neB (pc' := 11) (tgt := 15) C dX9_addPhrase_8 (by decide) rfl (fun c_8_2 => ?_) (fun c_8_2 => ?_)
  · refine g_aload_n (pc' := 16) C 0 dX9_addPhrase_15 rfl rfl rfl ?_
    refine g_get (pc' := 19) C fl_RX9_84_8 0 rfl rfl dX9_addPhrase_16 rfl ?_
    refine g_if_eqN (pc' := 22) (tgt := 46) C (by first | assumption | omega) dX9_addPhrase_19 (by decide) rfl (fun c_19_3 => ?_) (fun c_19_3 => ?_)
    · refine g_iconst (pc' := 47) (v := nI 2) C dX9_addPhrase_46 (by decide) rfl ?_
      refine g_goto (tgt := 51) C dX9_addPhrase_47 (by decide) ?_
      refine g_put (pc' := 54) (ws' := [(u0, .inr (8, [.int (nI 2), .int (nI n), .ref u1, .ref u2, .int (nI ds), .ref u3, .int (nI mc), .ref u4, .ref u5, .ref u6, .ref u7, .ref u8, .int (nI len), .ref u9, .int (nI ba), .int (nI sm), .ref ua, .ref ub, .ref uc, .ref ud, .ref ue, .int (nI dy), .ref uf, .ref ug])), (u3, .inl (κ.2 0, 4, .inl (oA dr))), (u4, .inl (κ.2 1, 8, .inl (zA th))), (u5, .inl (κ.2 0, 8, .inl (nA ck))), (u6, .inl (κ.2 0, 8, .inl (oA rc))), (u7, .inl (κ.2 0, 8, .inl (nA pm))), (u8, .inl (κ.2 0, 32, .inl (oA pf)))]) C fp_RX9_63_8 0 rfl rfl rfl (Nat.le_of_ble_eq_true rfl) rfl dX9_addPhrase_51 rfl ?_
      refine g_aload_n (pc' := 55) C 0 dX9_addPhrase_54 rfl rfl rfl ?_
      refine g_get (pc' := 58) C fl_RX9_63_8 0 rfl rfl dX9_addPhrase_55 rfl ?_
      refine g_if_leN (pc' := 61) (tgt := 63) C (by first | assumption | omega) dX9_addPhrase_58 (by decide) rfl (fun z => absurd z (by decide)) (fun _ => ?_)
      refine g_iconst (pc' := 62) (v := nI 0) C dX9_addPhrase_61 (by decide) rfl ?_
      have hc9 : c_addPhrase p0 ds dr mc = 2 := by simp [c_addPhrase, *] <;> omega
      exact g_retMi C hAe rfl rfl (Nat.le_of_ble_eq_true rfl) (Nat.le_of_ble_eq_true rfl) (⟨by rw [hc9] <;> rfl, by rw [hc9] <;> rfl⟩) dX9_addPhrase_62
    · refine g_aload_n (pc' := 23) C 0 dX9_addPhrase_22 rfl rfl rfl ?_
      refine g_get (pc' := 26) C fl_RX9_16_8 0 rfl rfl dX9_addPhrase_23 rfl ?_
      refine g_aload_n (pc' := 27) C 0 dX9_addPhrase_26 rfl rfl rfl ?_
      refine g_get (pc' := 30) C fl_RX9_84_8 0 rfl rfl dX9_addPhrase_27 rfl ?_
      refine g_iconst (pc' := 31) (v := nI 1) C dX9_addPhrase_30 (by decide) rfl ?_
      refine g_isub (pc' := 32) (v := nI (ds - 1)) C dX9_addPhrase_31 (pk_sub (by first | assumption | omega)) rfl ?_
      refine g_ialdO (pc' := 33) C 1 (f := dr) rfl (ds - 1) (by first | assumption | omega) (by decide) dX9_addPhrase_32 rfl ?_
      refine g_iconst (pc' := 34) (v := (-1)) C dX9_addPhrase_33 (by decide) rfl ?_
      refine g_icmp_eqO (pc' := 37) (tgt := 46) C (fun h q => Nat.lt_trans (hdr _ h q) (by decide)) dX9_addPhrase_34 (by decide) rfl (fun c_34_5 => ?_) (fun v_34_5 c_34_5 => ?_)
      · refine g_iconst (pc' := 47) (v := nI 2) C dX9_addPhrase_46 (by decide) rfl ?_
        refine g_goto (tgt := 51) C dX9_addPhrase_47 (by decide) ?_
        refine g_put (pc' := 54) (ws' := [(u0, .inr (8, [.int (nI 2), .int (nI n), .ref u1, .ref u2, .int (nI ds), .ref u3, .int (nI mc), .ref u4, .ref u5, .ref u6, .ref u7, .ref u8, .int (nI len), .ref u9, .int (nI ba), .int (nI sm), .ref ua, .ref ub, .ref uc, .ref ud, .ref ue, .int (nI dy), .ref uf, .ref ug])), (u3, .inl (κ.2 0, 4, .inl (oA dr))), (u4, .inl (κ.2 1, 8, .inl (zA th))), (u5, .inl (κ.2 0, 8, .inl (nA ck))), (u6, .inl (κ.2 0, 8, .inl (oA rc))), (u7, .inl (κ.2 0, 8, .inl (nA pm))), (u8, .inl (κ.2 0, 32, .inl (oA pf)))]) C fp_RX9_63_8 0 rfl rfl rfl (Nat.le_of_ble_eq_true rfl) rfl dX9_addPhrase_51 rfl ?_
        refine g_aload_n (pc' := 55) C 0 dX9_addPhrase_54 rfl rfl rfl ?_
        refine g_get (pc' := 58) C fl_RX9_63_8 0 rfl rfl dX9_addPhrase_55 rfl ?_
        refine g_if_leN (pc' := 61) (tgt := 63) C (by first | assumption | omega) dX9_addPhrase_58 (by decide) rfl (fun z => absurd z (by decide)) (fun _ => ?_)
        refine g_iconst (pc' := 62) (v := nI 0) C dX9_addPhrase_61 (by decide) rfl ?_
        have hc9 : c_addPhrase p0 ds dr mc = 2 := by simp [c_addPhrase, *] <;> omega
        exact g_retMi C hAe rfl rfl (Nat.le_of_ble_eq_true rfl) (Nat.le_of_ble_eq_true rfl) (⟨by rw [hc9] <;> rfl, by rw [hc9] <;> rfl⟩) dX9_addPhrase_62
      · refine g_aload_n (pc' := 38) C 0 dX9_addPhrase_37 rfl rfl rfl ?_
        refine g_get (pc' := 41) C fl_RX9_70_8 0 rfl rfl dX9_addPhrase_38 rfl ?_
        refine g_bipush (pc' := 43) (v := nI 8) C dX9_addPhrase_41 (by decide) rfl ?_
        refine g_icmp_neN (pc' := 46) (tgt := 50) C (by first | assumption | omega) (by first | assumption | omega) dX9_addPhrase_43 (by decide) rfl (fun c_43_7 => ?_) (fun c_43_7 => ?_)
        · refine g_iconst (pc' := 51) (v := nI 0) C dX9_addPhrase_50 (by decide) rfl ?_
          refine g_put (pc' := 54) (ws' := [(u0, .inr (8, [.int (nI 0), .int (nI n), .ref u1, .ref u2, .int (nI ds), .ref u3, .int (nI mc), .ref u4, .ref u5, .ref u6, .ref u7, .ref u8, .int (nI len), .ref u9, .int (nI ba), .int (nI sm), .ref ua, .ref ub, .ref uc, .ref ud, .ref ue, .int (nI dy), .ref uf, .ref ug])), (u3, .inl (κ.2 0, 4, .inl (oA dr))), (u4, .inl (κ.2 1, 8, .inl (zA th))), (u5, .inl (κ.2 0, 8, .inl (nA ck))), (u6, .inl (κ.2 0, 8, .inl (oA rc))), (u7, .inl (κ.2 0, 8, .inl (nA pm))), (u8, .inl (κ.2 0, 32, .inl (oA pf)))]) C fp_RX9_63_8 0 rfl rfl rfl (Nat.le_of_ble_eq_true rfl) rfl dX9_addPhrase_51 rfl ?_
          refine g_aload_n (pc' := 55) C 0 dX9_addPhrase_54 rfl rfl rfl ?_
          refine g_get (pc' := 58) C fl_RX9_63_8 0 rfl rfl dX9_addPhrase_55 rfl ?_
          refine g_if_leN (pc' := 61) (tgt := 63) C (by first | assumption | omega) dX9_addPhrase_58 (by decide) rfl (fun _ => ?_) (fun z => absurd z (by decide))
          obtain ⟨w9, -, hw9, rfl⟩ := inZ_w c_8_2 (by decide)
          refine g_aload_n (pc' := 64) C 0 dX9_addPhrase_63 rfl rfl rfl ?_
          refine g_get (pc' := 67) C fl_RX9_29_8 0 rfl rfl dX9_addPhrase_64 rfl ?_
          refine g_aload_n (pc' := 68) C 0 dX9_addPhrase_67 rfl rfl rfl ?_
          refine g_get (pc' := 71) C fl_RX9_70_8 0 rfl rfl dX9_addPhrase_68 rfl ?_
          refine g_aload_n (pc' := 72) C 0 dX9_addPhrase_71 rfl rfl rfl ?_
          refine g_get (pc' := 75) C fl_RX9_84_8 0 rfl rfl dX9_addPhrase_72 rfl ?_
          refine g_iastN (pc' := 76) (ws' := [(u0, .inr (8, [.int (nI 0), .int (nI n), .ref u1, .ref u2, .int (nI ds), .ref u3, .int (nI mc), .ref u4, .ref u5, .ref u6, .ref u7, .ref u8, .int (nI len), .ref u9, .int (nI ba), .int (nI sm), .ref ua, .ref ub, .ref uc, .ref ud, .ref ue, .int (nI dy), .ref uf, .ref ug])), (u3, .inl (κ.2 0, 4, .inl (oA dr))), (u4, .inl (κ.2 1, 8, .inl (zA th))), (u5, .inl (κ.2 0, 8, .inl (nA ck))), (u6, .inl (κ.2 0, 8, .inl (oA rc))), (u7, .inl (κ.2 0, 8, .inl (nA (va_up pm mc ds)))), (u8, .inl (κ.2 0, 32, .inl (oA pf)))]) C 5 rfl mc (by first | assumption | omega) (by decide) rfl dX9_addPhrase_75 rfl ?_
          refine g_iconst (pc' := 77) (v := nI 0) C dX9_addPhrase_76 (by decide) rfl ?_
          refine g_istore_n (pc' := 78) (lv' := [(2, .int (nI 0)), (0, .ref u0), (1, .int (nI w9))]) C dX9_addPhrase_77 rfl (by decide) rfl rfl ?_
          have lp_a : ∀ (fu_a : Nat) (i : Nat) (pf8 : Nat → Option Nat), (i ≤ ds) → (pf8 = cpf pf dr mc i) → (ds - i) < fu_a → G p l e (rmv 2 0 0) s m ([.ref u0, .int (nI w9)] : List Value).toArray below meth c κ 3 (JM A s) [(u0, .inr (8, [.int (nI 0), .int (nI n), .ref u1, .ref u2, .int (nI ds), .ref u3, .int (nI mc), .ref u4, .ref u5, .ref u6, .ref u7, .ref u8, .int (nI len), .ref u9, .int (nI ba), .int (nI sm), .ref ua, .ref ub, .ref uc, .ref ud, .ref ue, .int (nI dy), .ref uf, .ref ug])), (u3, .inl (κ.2 0, 4, .inl (oA dr))), (u4, .inl (κ.2 1, 8, .inl (zA th))), (u5, .inl (κ.2 0, 8, .inl (nA ck))), (u6, .inl (κ.2 0, 8, .inl (oA rc))), (u7, .inl (κ.2 0, 8, .inl (nA (va_up pm mc ds)))), (u8, .inl (κ.2 0, 32, .inl (oA pf8)))] 0 0 (MQ below (QMi κ [(u0, .inr (8, [.int (nI t9), .int (nI n), .ref u1, .ref u2, .int (nI ds), .ref u3, .int (nI mc), .ref u4, .ref u5, .ref u6, .ref u7, .ref u8, .int (nI len), .ref u9, .int (nI ba), .int (nI sm), .ref ua, .ref ub, .ref uc, .ref ud, .ref ue, .int (nI dy), .ref uf, .ref ug])), (u3, .inl (κ.2 0, 4, .inl (oA dr))), (u4, .inl (κ.2 1, 8, .inl (zA th))), (u5, .inl (κ.2 0, 8, .inl (nA ck))), (u6, .inl (κ.2 0, 8, .inl (oA rc))), (u7, .inl (κ.2 0, 8, .inl (nA pm))), (u8, .inl (κ.2 0, 32, .inl (oA pf)))] s.heap.size (fun (vr_ : Int32) (vw_ : va_W) => vr_ = nI (if c_addPhrase (nI w9) ds dr mc = 0 then mc else 0) ∧ vw_ = [(u0, .inr (8, [.int (nI (c_addPhrase (nI w9) ds dr mc)), .int (nI n), .ref u1, .ref u2, .int (nI (if c_addPhrase (nI w9) ds dr mc = 0 then 0 else ds)), .ref u3, .int (nI (if c_addPhrase (nI w9) ds dr mc = 0 then mc + 1 else mc)), .ref u4, .ref u5, .ref u6, .ref u7, .ref u8, .int (nI len), .ref u9, .int (nI ba), .int (nI sm), .ref ua, .ref ub, .ref uc, .ref ud, .ref ue, .int (nI dy), .ref uf, .ref ug])), (u3, .inl (κ.2 0, 4, .inl (oA dr))), (u4, .inl (κ.2 1, 8, .inl (zA (if c_addPhrase (nI w9) ds dr mc = 0 then va_up th mc true else th)))), (u5, .inl (κ.2 0, 8, .inl (nA (if c_addPhrase (nI w9) ds dr mc = 0 then va_up ck mc (n9 (nI w9)) else ck)))), (u6, .inl (κ.2 0, 8, .inl (oA (if c_addPhrase (nI w9) ds dr mc = 0 then va_up rc mc none else rc)))), (u7, .inl (κ.2 0, 8, .inl (nA (if c_addPhrase (nI w9) ds dr mc = 0 then va_up pm mc ds else pm)))), (u8, .inl (κ.2 0, 32, .inl (oA (if c_addPhrase (nI w9) ds dr mc = 0 then cpf pf dr mc ds else pf))))])) ([.ref u0, .int (nI w9)] : List Value).toArray s 0 0 A) 78 [(2, .int (nI i)), (0, .ref u0), (1, .int (nI w9))] [] := by
            intro fu_a
            induction fu_a with
            | zero => intro i pf8 hi hpf hmu; exact absurd hmu (Nat.not_lt_zero _)
            | succ fu_a ih_a =>
              intro i pf8 hi hpf hmu_a
              refine g_iload_n (pc' := 79) C 0 dX9_addPhrase_78 rfl rfl rfl ?_
              refine g_aload_n (pc' := 80) C 1 dX9_addPhrase_79 rfl rfl rfl ?_
              refine g_get (pc' := 83) C fl_RX9_84_8 0 rfl rfl dX9_addPhrase_80 rfl ?_
              refine g_icmp_geN (pc' := 86) (tgt := 111) C (by first | assumption | omega) (by first | assumption | omega) dX9_addPhrase_83 (by decide) rfl (fun c_83_9 => ?_) (fun c_83_9 => ?_)
              · refine g_aload_n (pc' := 112) C 1 dX9_addPhrase_111 rfl rfl rfl ?_
                refine g_iconst (pc' := 113) (v := nI 0) C dX9_addPhrase_112 (by decide) rfl ?_
                refine g_put (pc' := 116) (ws' := [(u0, .inr (8, [.int (nI 0), .int (nI n), .ref u1, .ref u2, .int (nI 0), .ref u3, .int (nI mc), .ref u4, .ref u5, .ref u6, .ref u7, .ref u8, .int (nI len), .ref u9, .int (nI ba), .int (nI sm), .ref ua, .ref ub, .ref uc, .ref ud, .ref ue, .int (nI dy), .ref uf, .ref ug])), (u3, .inl (κ.2 0, 4, .inl (oA dr))), (u4, .inl (κ.2 1, 8, .inl (zA th))), (u5, .inl (κ.2 0, 8, .inl (nA ck))), (u6, .inl (κ.2 0, 8, .inl (oA rc))), (u7, .inl (κ.2 0, 8, .inl (nA (va_up pm mc ds)))), (u8, .inl (κ.2 0, 32, .inl (oA pf8)))]) C fp_RX9_84_8 0 rfl rfl rfl (Nat.le_of_ble_eq_true rfl) rfl dX9_addPhrase_113 rfl ?_
                refine g_aload_n (pc' := 117) C 1 dX9_addPhrase_116 rfl rfl rfl ?_
                refine g_iload_n (pc' := 118) C 2 dX9_addPhrase_117 rfl rfl rfl ?_
                refine g_iconst (pc' := 119) (v := (-1)) C dX9_addPhrase_118 (by decide) rfl ?_
                refine g_callMi (pc' := 122) (wr := [(u3, .inl (κ.2 0, 4, .inl (oA dr))), (u7, .inl (κ.2 0, 8, .inl (nA (va_up pm mc ds)))), (u8, .inl (κ.2 0, 32, .inl (oA pf8)))]) C hA lk_RX9_87 (kX9_makes l κ u0 u1 u2 u3 u4 u5 u6 u7 u8 u9 ua ub uc ud ue uf ug 0 n 0 mc len ba sm dy th ck rc w9 none (by first | assumption | omega)) 0 rfl rfl [0, 2, 3, 4] [1, 5, 6] rfl rfl ⟨rfl, rfl, by decide⟩ rfl (Nat.le_of_ble_eq_true rfl) ⟨Nat.le_of_ble_eq_true rfl, Nat.le_of_ble_eq_true rfl⟩ ⟨Nat.le_of_ble_eq_true rfl, Nat.le_of_ble_eq_true rfl⟩ rfl dX9_addPhrase_119 rfl (fun r_119_10 w_119_10 h_119_10 => ?_)
                obtain ⟨rfl, rfl⟩ : r_119_10 = nI mc ∧ w_119_10 = [(u0, .inr (8, [.int (nI 0), .int (nI n), .ref u1, .ref u2, .int (nI 0), .ref u3, .int (nI (mc + 1)), .ref u4, .ref u5, .ref u6, .ref u7, .ref u8, .int (nI len), .ref u9, .int (nI ba), .int (nI sm), .ref ua, .ref ub, .ref uc, .ref ud, .ref ue, .int (nI dy), .ref uf, .ref ug])), (u4, .inl (κ.2 1, 8, .inl (zA (va_up th mc true)))), (u5, .inl (κ.2 0, 8, .inl (nA (va_up ck mc w9)))), (u6, .inl (κ.2 0, 8, .inl (oA (va_up rc mc none))))] := h_119_10
                show G p l e (rmv 2 0 0) s m ([.ref u0, .int (nI w9)] : List Value).toArray below meth c κ 3 (JM A s) [(u3, .inl (κ.2 0, 4, .inl (oA dr))), (u7, .inl (κ.2 0, 8, .inl (nA (va_up pm mc ds)))), (u8, .inl (κ.2 0, 32, .inl (oA pf8))), (u0, .inr (8, [.int (nI 0), .int (nI n), .ref u1, .ref u2, .int (nI 0), .ref u3, .int (nI (mc + 1)), .ref u4, .ref u5, .ref u6, .ref u7, .ref u8, .int (nI len), .ref u9, .int (nI ba), .int (nI sm), .ref ua, .ref ub, .ref uc, .ref ud, .ref ue, .int (nI dy), .ref uf, .ref ug])), (u4, .inl (κ.2 1, 8, .inl (zA (va_up th mc true)))), (u5, .inl (κ.2 0, 8, .inl (nA (va_up ck mc w9)))), (u6, .inl (κ.2 0, 8, .inl (oA (va_up rc mc none))))] 0 0 (MQ below (QMi κ [(u0, .inr (8, [.int (nI t9), .int (nI n), .ref u1, .ref u2, .int (nI ds), .ref u3, .int (nI mc), .ref u4, .ref u5, .ref u6, .ref u7, .ref u8, .int (nI len), .ref u9, .int (nI ba), .int (nI sm), .ref ua, .ref ub, .ref uc, .ref ud, .ref ue, .int (nI dy), .ref uf, .ref ug])), (u3, .inl (κ.2 0, 4, .inl (oA dr))), (u4, .inl (κ.2 1, 8, .inl (zA th))), (u5, .inl (κ.2 0, 8, .inl (nA ck))), (u6, .inl (κ.2 0, 8, .inl (oA rc))), (u7, .inl (κ.2 0, 8, .inl (nA pm))), (u8, .inl (κ.2 0, 32, .inl (oA pf)))] s.heap.size (fun (vr_ : Int32) (vw_ : va_W) => vr_ = nI (if c_addPhrase (nI w9) ds dr mc = 0 then mc else 0) ∧ vw_ = [(u0, .inr (8, [.int (nI (c_addPhrase (nI w9) ds dr mc)), .int (nI n), .ref u1, .ref u2, .int (nI (if c_addPhrase (nI w9) ds dr mc = 0 then 0 else ds)), .ref u3, .int (nI (if c_addPhrase (nI w9) ds dr mc = 0 then mc + 1 else mc)), .ref u4, .ref u5, .ref u6, .ref u7, .ref u8, .int (nI len), .ref u9, .int (nI ba), .int (nI sm), .ref ua, .ref ub, .ref uc, .ref ud, .ref ue, .int (nI dy), .ref uf, .ref ug])), (u3, .inl (κ.2 0, 4, .inl (oA dr))), (u4, .inl (κ.2 1, 8, .inl (zA (if c_addPhrase (nI w9) ds dr mc = 0 then va_up th mc true else th)))), (u5, .inl (κ.2 0, 8, .inl (nA (if c_addPhrase (nI w9) ds dr mc = 0 then va_up ck mc (n9 (nI w9)) else ck)))), (u6, .inl (κ.2 0, 8, .inl (oA (if c_addPhrase (nI w9) ds dr mc = 0 then va_up rc mc none else rc)))), (u7, .inl (κ.2 0, 8, .inl (nA (if c_addPhrase (nI w9) ds dr mc = 0 then va_up pm mc ds else pm)))), (u8, .inl (κ.2 0, 32, .inl (oA (if c_addPhrase (nI w9) ds dr mc = 0 then cpf pf dr mc ds else pf))))])) ([.ref u0, .int (nI w9)] : List Value).toArray s 0 0 A) 122 [(2, .int (nI i)), (0, .ref u0), (1, .int (nI w9))] [.int (nI mc)]
                refine g_selM (ws' := [(u0, .inr (8, [.int (nI 0), .int (nI n), .ref u1, .ref u2, .int (nI 0), .ref u3, .int (nI (mc + 1)), .ref u4, .ref u5, .ref u6, .ref u7, .ref u8, .int (nI len), .ref u9, .int (nI ba), .int (nI sm), .ref ua, .ref ub, .ref uc, .ref ud, .ref ue, .int (nI dy), .ref uf, .ref ug])), (u3, .inl (κ.2 0, 4, .inl (oA dr))), (u4, .inl (κ.2 1, 8, .inl (zA (va_up th mc true)))), (u5, .inl (κ.2 0, 8, .inl (nA (va_up ck mc w9)))), (u6, .inl (κ.2 0, 8, .inl (oA (va_up rc mc none)))), (u7, .inl (κ.2 0, 8, .inl (nA (va_up pm mc ds)))), (u8, .inl (κ.2 0, 32, .inl (oA pf8)))]) [3, 0, 4, 5, 6, 1, 2] rfl rfl ?_
                have hc9 : c_addPhrase (nI w9) ds dr mc = 0 := by simp [c_addPhrase, *] <;> omega
                exact g_retMi C hAe rfl rfl (Nat.le_of_ble_eq_true rfl) (Nat.le_of_ble_eq_true rfl) (⟨by rw [hc9] <;> (try simp only [n9_nI (show w9 < 2147483648 by omega), hpf, show i = ds by omega]) <;> rfl, by rw [hc9] <;> (try simp only [n9_nI (show w9 < 2147483648 by omega), hpf, show i = ds by omega]) <;> rfl⟩) dX9_addPhrase_122
              · refine g_aload_n (pc' := 87) C 1 dX9_addPhrase_86 rfl rfl rfl ?_
                refine g_get (pc' := 90) C fl_RX9_32_8 0 rfl rfl dX9_addPhrase_87 rfl ?_
                refine g_iconst (pc' := 91) (v := nI 4) C dX9_addPhrase_90 (by decide) rfl ?_
                refine g_aload_n (pc' := 92) C 1 dX9_addPhrase_91 rfl rfl rfl ?_
                refine g_get (pc' := 95) C fl_RX9_70_8 0 rfl rfl dX9_addPhrase_92 rfl ?_
                refine g_imul (pc' := 96) (v := nI (4 * mc)) C dX9_addPhrase_95 (pk_mul _ _) rfl ?_
                refine g_iload_n (pc' := 97) C 0 dX9_addPhrase_96 rfl rfl rfl ?_
                refine g_iadd (pc' := 98) (v := nI ((4 * mc) + i)) C dX9_addPhrase_97 (nI_add _ _) rfl ?_
                refine g_aload_n (pc' := 99) C 1 dX9_addPhrase_98 rfl rfl rfl ?_
                refine g_get (pc' := 102) C fl_RX9_16_8 0 rfl rfl dX9_addPhrase_99 rfl ?_
                refine g_iload_n (pc' := 103) C 0 dX9_addPhrase_102 rfl rfl rfl ?_
                refine g_ialdO (pc' := 104) C 1 (f := dr) rfl i (by first | assumption | omega) (by decide) dX9_addPhrase_103 rfl ?_
                refine g_iastO (pc' := 105) (x := dr i) (ws' := [(u0, .inr (8, [.int (nI 0), .int (nI n), .ref u1, .ref u2, .int (nI ds), .ref u3, .int (nI mc), .ref u4, .ref u5, .ref u6, .ref u7, .ref u8, .int (nI len), .ref u9, .int (nI ba), .int (nI sm), .ref ua, .ref ub, .ref uc, .ref ud, .ref ue, .int (nI dy), .ref uf, .ref ug])), (u3, .inl (κ.2 0, 4, .inl (oA dr))), (u4, .inl (κ.2 1, 8, .inl (zA th))), (u5, .inl (κ.2 0, 8, .inl (nA ck))), (u6, .inl (κ.2 0, 8, .inl (oA rc))), (u7, .inl (κ.2 0, 8, .inl (nA (va_up pm mc ds)))), (u8, .inl (κ.2 0, 32, .inl (oA (va_up pf8 ((4 * mc) + i) (dr i)))))]) C 6 rfl rfl ((4 * mc) + i) (by first | assumption | omega) (by decide) rfl dX9_addPhrase_104 rfl ?_
                refine g_iinc (pc' := 108) (v := nI (i + 1)) (lv' := [(2, .int (nI (i + 1))), (0, .ref u0), (1, .int (nI w9))]) C 0 dX9_addPhrase_105 rfl (iincN1 _) (by decide) rfl rfl ?_
                refine g_goto (tgt := 78) C dX9_addPhrase_108 (by decide) ?_
                exact ih_a (i + 1) (va_up pf8 ((4 * mc) + i) (dr i)) (by first | assumption | omega) (by rw [hpf]; rfl) (by omega)
          exact lp_a 5 0 pf (Nat.zero_le _) rfl (by omega)
        · refine g_iconst (pc' := 47) (v := nI 2) C dX9_addPhrase_46 (by decide) rfl ?_
          refine g_goto (tgt := 51) C dX9_addPhrase_47 (by decide) ?_
          refine g_put (pc' := 54) (ws' := [(u0, .inr (8, [.int (nI 2), .int (nI n), .ref u1, .ref u2, .int (nI ds), .ref u3, .int (nI mc), .ref u4, .ref u5, .ref u6, .ref u7, .ref u8, .int (nI len), .ref u9, .int (nI ba), .int (nI sm), .ref ua, .ref ub, .ref uc, .ref ud, .ref ue, .int (nI dy), .ref uf, .ref ug])), (u3, .inl (κ.2 0, 4, .inl (oA dr))), (u4, .inl (κ.2 1, 8, .inl (zA th))), (u5, .inl (κ.2 0, 8, .inl (nA ck))), (u6, .inl (κ.2 0, 8, .inl (oA rc))), (u7, .inl (κ.2 0, 8, .inl (nA pm))), (u8, .inl (κ.2 0, 32, .inl (oA pf)))]) C fp_RX9_63_8 0 rfl rfl rfl (Nat.le_of_ble_eq_true rfl) rfl dX9_addPhrase_51 rfl ?_
          refine g_aload_n (pc' := 55) C 0 dX9_addPhrase_54 rfl rfl rfl ?_
          refine g_get (pc' := 58) C fl_RX9_63_8 0 rfl rfl dX9_addPhrase_55 rfl ?_
          refine g_if_leN (pc' := 61) (tgt := 63) C (by first | assumption | omega) dX9_addPhrase_58 (by decide) rfl (fun z => absurd z (by decide)) (fun _ => ?_)
          refine g_iconst (pc' := 62) (v := nI 0) C dX9_addPhrase_61 (by decide) rfl ?_
          have hc9 : c_addPhrase p0 ds dr mc = 2 := by simp [c_addPhrase, *] <;> omega
          exact g_retMi C hAe rfl rfl (Nat.le_of_ble_eq_true rfl) (Nat.le_of_ble_eq_true rfl) (⟨by rw [hc9] <;> rfl, by rw [hc9] <;> rfl⟩) dX9_addPhrase_62
  · refine g_iconst (pc' := 12) (v := nI 1) C dX9_addPhrase_11 (by decide) rfl ?_
    refine g_goto (tgt := 51) C dX9_addPhrase_12 (by decide) ?_
    refine g_put (pc' := 54) (ws' := [(u0, .inr (8, [.int (nI 1), .int (nI n), .ref u1, .ref u2, .int (nI ds), .ref u3, .int (nI mc), .ref u4, .ref u5, .ref u6, .ref u7, .ref u8, .int (nI len), .ref u9, .int (nI ba), .int (nI sm), .ref ua, .ref ub, .ref uc, .ref ud, .ref ue, .int (nI dy), .ref uf, .ref ug])), (u3, .inl (κ.2 0, 4, .inl (oA dr))), (u4, .inl (κ.2 1, 8, .inl (zA th))), (u5, .inl (κ.2 0, 8, .inl (nA ck))), (u6, .inl (κ.2 0, 8, .inl (oA rc))), (u7, .inl (κ.2 0, 8, .inl (nA pm))), (u8, .inl (κ.2 0, 32, .inl (oA pf)))]) C fp_RX9_63_8 0 rfl rfl rfl (Nat.le_of_ble_eq_true rfl) rfl dX9_addPhrase_51 rfl ?_
    refine g_aload_n (pc' := 55) C 0 dX9_addPhrase_54 rfl rfl rfl ?_
    refine g_get (pc' := 58) C fl_RX9_63_8 0 rfl rfl dX9_addPhrase_55 rfl ?_
    refine g_if_leN (pc' := 61) (tgt := 63) C (by first | assumption | omega) dX9_addPhrase_58 (by decide) rfl (fun z => absurd z (by decide)) (fun _ => ?_)
    refine g_iconst (pc' := 62) (v := nI 0) C dX9_addPhrase_61 (by decide) rfl ?_
    have hc9 : c_addPhrase p0 ds dr mc = 1 := by simp [c_addPhrase, *] <;> omega
    exact g_retMi C hAe rfl rfl (Nat.le_of_ble_eq_true rfl) (Nat.le_of_ble_eq_true rfl) (⟨by rw [hc9] <;> rfl, by rw [hc9] <;> rfl⟩) dX9_addPhrase_62

set_option maxHeartbeats 4000000 in
set_option maxRecDepth 100000 in
theorem kX9_addSplit (l : Launch) (κ : KK) (u0 : Nat) (u1 : Nat) (u2 : Nat) (u3 : Nat) (u4 : Nat) (u5 : Nat) (u6 : Nat) (u7 : Nat) (u8 : Nat) (u9 : Nat) (ua : Nat) (ub : Nat) (uc : Nat) (ud : Nat) (ue : Nat) (uf : Nat) (ug : Nat) (t9 : Nat) (n : Nat) (ds : Nat) (mc : Nat) (len : Nat) (ba : Nat) (sm : Nat) (dy : Nat) (th : Nat → Bool) (ck : Nat → Nat) (rc : Nat → Option Nat) (pf : Nat → Option Nat) (p0 : Int32) (p1 : Int32) (p2 : Int32) (p3 : Int32) (hm : mc ≤ 8) : CMi l yX9_addSplit cX9_addSplit 5 (some .int) 2 0 0 κ [.ref u0, .int p0, .int p1, .int p2, .int p3] [(u0, .inr (8, [.int (nI t9), .int (nI n), .ref u1, .ref u2, .int (nI ds), .ref u3, .int (nI mc), .ref u4, .ref u5, .ref u6, .ref u7, .ref u8, .int (nI len), .ref u9, .int (nI ba), .int (nI sm), .ref ua, .ref ub, .ref uc, .ref ud, .ref ue, .int (nI dy), .ref uf, .ref ug])), (u4, .inl (κ.2 1, 8, .inl (zA th))), (u5, .inl (κ.2 0, 8, .inl (nA ck))), (u6, .inl (κ.2 0, 8, .inl (oA rc))), (u8, .inl (κ.2 0, 32, .inl (oA pf)))] (fun (vr_ : Int32) (vw_ : va_W) => vr_ = nI (if c_addSplit p0 p1 p2 p3 mc = 0 then mc else 0) ∧ vw_ = [(u0, .inr (8, [.int (nI (c_addSplit p0 p1 p2 p3 mc)), .int (nI n), .ref u1, .ref u2, .int (nI ds), .ref u3, .int (nI (if c_addSplit p0 p1 p2 p3 mc = 0 then mc + 1 else mc)), .ref u4, .ref u5, .ref u6, .ref u7, .ref u8, .int (nI len), .ref u9, .int (nI ba), .int (nI sm), .ref ua, .ref ub, .ref uc, .ref ud, .ref ue, .int (nI dy), .ref uf, .ref ug])), (u4, .inl (κ.2 1, 8, .inl (zA (if c_addSplit p0 p1 p2 p3 mc = 0 then va_up th mc true else th)))), (u5, .inl (κ.2 0, 8, .inl (nA (if c_addSplit p0 p1 p2 p3 mc = 0 then va_up ck mc (n9 p3) else ck)))), (u6, .inl (κ.2 0, 8, .inl (oA (if c_addSplit p0 p1 p2 p3 mc = 0 then va_up rc mc (some (n9 p2)) else rc)))), (u8, .inl (κ.2 0, 32, .inl (oA (if c_addSplit p0 p1 p2 p3 mc = 0 then va_up (va_up pf (4 * mc) (some (n9 p0))) (4 * mc + 1) (some (n9 p1)) else pf))))]) := by
  refine cmi_of RX9 rfl (by decide) (Nat.le_of_ble_eq_true rfl) ?_
  intro p e s m below meth c A C hAe hA hini
  refine g_lv (lv' := [(0, .ref u0), (1, .int p0), (2, .int p1), (3, .int p2), (4, .int p3)]) [0, 1, 2, 3, 4] rfl ?_
  refine g_aload_n (pc' := 1) C 0 dX9_addSplit_0 rfl rfl rfl ?_
  refine g_iload_n (pc' := 2) C 1 dX9_addSplit_1 rfl rfl rfl ?_
  refine g_callPS (pc' := 5) C lk_RX9_76 (kX9_isWord l κ p0) [] rfl rfl (Nat.le_of_ble_eq_true rfl) ⟨Nat.le_of_ble_eq_true rfl, Nat.le_of_ble_eq_true rfl⟩ ⟨Nat.le_of_ble_eq_true rfl, Nat.le_of_ble_eq_true rfl⟩ rfl dX9_addSplit_2 rfl (fun r_2_1 h_2_1 => ?_)
  obtain rfl : r_2_1 = b2i (inZ 0 99 p0) := h_2_1
  refine g_if_eqB (pc' := 8) (tgt := 15) C dX9_addSplit_5 (by decide) rfl (fun c_5_2 => ?_) (fun c_5_2 => ?_)
  · refine g_iconst (pc' := 16) (v := nI 1) C dX9_addSplit_15 (by decide) rfl ?_
    refine g_goto (tgt := 57) C dX9_addSplit_16 (by decide) ?_
    refine g_put (pc' := 60) (ws' := [(u0, .inr (8, [.int (nI 1), .int (nI n), .ref u1, .ref u2, .int (nI ds), .ref u3, .int (nI mc), .ref u4, .ref u5, .ref u6, .ref u7, .ref u8, .int (nI len), .ref u9, .int (nI ba), .int (nI sm), .ref ua, .ref ub, .ref uc, .ref ud, .ref ue, .int (nI dy), .ref uf, .ref ug])), (u4, .inl (κ.2 1, 8, .inl (zA th))), (u5, .inl (κ.2 0, 8, .inl (nA ck))), (u6, .inl (κ.2 0, 8, .inl (oA rc))), (u8, .inl (κ.2 0, 32, .inl (oA pf)))]) C fp_RX9_63_8 0 rfl rfl rfl (Nat.le_of_ble_eq_true rfl) rfl dX9_addSplit_57 rfl ?_
    refine g_aload_n (pc' := 61) C 0 dX9_addSplit_60 rfl rfl rfl ?_
    refine g_get (pc' := 64) C fl_RX9_63_8 0 rfl rfl dX9_addSplit_61 rfl ?_
    refine g_if_leN (pc' := 67) (tgt := 69) C (by first | assumption | omega) dX9_addSplit_64 (by decide) rfl (fun z => absurd z (by decide)) (fun _ => ?_)
    refine g_iconst (pc' := 68) (v := nI 0) C dX9_addSplit_67 (by decide) rfl ?_
    have hc9 : c_addSplit p0 p1 p2 p3 mc = 1 := by simp [c_addSplit, *] <;> omega
    exact g_retMi C hAe rfl rfl (Nat.le_of_ble_eq_true rfl) (Nat.le_of_ble_eq_true rfl) (⟨by rw [hc9] <;> rfl, by rw [hc9] <;> rfl⟩) dX9_addSplit_68
  · refine g_iload_n (pc' := 9) C 2 dX9_addSplit_8 rfl rfl rfl ?_
    refine g_callPS (pc' := 12) C lk_RX9_76 (kX9_isWord l κ p1) [] rfl rfl (Nat.le_of_ble_eq_true rfl) ⟨Nat.le_of_ble_eq_true rfl, Nat.le_of_ble_eq_true rfl⟩ ⟨Nat.le_of_ble_eq_true rfl, Nat.le_of_ble_eq_true rfl⟩ rfl dX9_addSplit_9 rfl (fun r_9_4 h_9_4 => ?_)
    obtain rfl : r_9_4 = b2i (inZ 0 99 p1) := h_9_4
    refine g_if_neB (pc' := 15) (tgt := 19) C dX9_addSplit_12 (by decide) rfl (fun c_12_5 => ?_) (fun c_12_5 => ?_)
    · refine g_iload_n (pc' := 20) C 3 dX9_addSplit_19 rfl rfl rfl ?_
      refine g_iconst (pc' := 21) (v := nI 0) C dX9_addSplit_20 (by decide) rfl ?_
      refine g_iconst (pc' := 22) (v := nI 4) C dX9_addSplit_21 (by decide) rfl ?_
      refine g_callPS (pc' := 25) C lk_RX9_66 (kX9_in_0_4 l κ p2) [] rfl rfl (Nat.le_of_ble_eq_true rfl) ⟨Nat.le_of_ble_eq_true rfl, Nat.le_of_ble_eq_true rfl⟩ ⟨Nat.le_of_ble_eq_true rfl, Nat.le_of_ble_eq_true rfl⟩ rfl dX9_addSplit_22 rfl (fun r_22_6 h_22_6 => ?_)
      obtain rfl : r_22_6 = b2i (inZ 0 4 p2) := h_22_6
      refine g_if_eqB (pc' := 28) (tgt := 39) C dX9_addSplit_25 (by decide) rfl (fun c_25_7 => ?_) (fun c_25_7 => ?_)
      · refine g_iconst (pc' := 40) (v := nI 2) C dX9_addSplit_39 (by decide) rfl ?_
        refine g_goto (tgt := 57) C dX9_addSplit_40 (by decide) ?_
        refine g_put (pc' := 60) (ws' := [(u0, .inr (8, [.int (nI 2), .int (nI n), .ref u1, .ref u2, .int (nI ds), .ref u3, .int (nI mc), .ref u4, .ref u5, .ref u6, .ref u7, .ref u8, .int (nI len), .ref u9, .int (nI ba), .int (nI sm), .ref ua, .ref ub, .ref uc, .ref ud, .ref ue, .int (nI dy), .ref uf, .ref ug])), (u4, .inl (κ.2 1, 8, .inl (zA th))), (u5, .inl (κ.2 0, 8, .inl (nA ck))), (u6, .inl (κ.2 0, 8, .inl (oA rc))), (u8, .inl (κ.2 0, 32, .inl (oA pf)))]) C fp_RX9_63_8 0 rfl rfl rfl (Nat.le_of_ble_eq_true rfl) rfl dX9_addSplit_57 rfl ?_
        refine g_aload_n (pc' := 61) C 0 dX9_addSplit_60 rfl rfl rfl ?_
        refine g_get (pc' := 64) C fl_RX9_63_8 0 rfl rfl dX9_addSplit_61 rfl ?_
        refine g_if_leN (pc' := 67) (tgt := 69) C (by first | assumption | omega) dX9_addSplit_64 (by decide) rfl (fun z => absurd z (by decide)) (fun _ => ?_)
        refine g_iconst (pc' := 68) (v := nI 0) C dX9_addSplit_67 (by decide) rfl ?_
        have hc9 : c_addSplit p0 p1 p2 p3 mc = 2 := by simp [c_addSplit, *] <;> omega
        exact g_retMi C hAe rfl rfl (Nat.le_of_ble_eq_true rfl) (Nat.le_of_ble_eq_true rfl) (⟨by rw [hc9] <;> rfl, by rw [hc9] <;> rfl⟩) dX9_addSplit_68
      · refine g_iload (pc' := 30) C 4 dX9_addSplit_28 rfl rfl ?_
        refine g_iconst (pc' := 31) (v := nI 1) C dX9_addSplit_30 (by decide) rfl ?_
        refine g_bipush (pc' := 33) (v := nI 20) C dX9_addSplit_31 (by decide) rfl ?_
        refine g_callPS (pc' := 36) C lk_RX9_66 (kX9_in_1_20 l κ p3) [] rfl rfl (Nat.le_of_ble_eq_true rfl) ⟨Nat.le_of_ble_eq_true rfl, Nat.le_of_ble_eq_true rfl⟩ ⟨Nat.le_of_ble_eq_true rfl, Nat.le_of_ble_eq_true rfl⟩ rfl dX9_addSplit_33 rfl (fun r_33_9 h_33_9 => ?_)
        obtain rfl : r_33_9 = b2i (inZ 1 20 p3) := h_33_9
        refine g_if_neB (pc' := 39) (tgt := 43) C dX9_addSplit_36 (by decide) rfl (fun c_36_10 => ?_) (fun c_36_10 => ?_)
        · refine g_aload_n (pc' := 44) C 0 dX9_addSplit_43 rfl rfl rfl ?_
          refine g_get (pc' := 47) C fl_RX9_70_8 0 rfl rfl dX9_addSplit_44 rfl ?_
          refine g_bipush (pc' := 49) (v := nI 8) C dX9_addSplit_47 (by decide) rfl ?_
          refine g_icmp_neN (pc' := 52) (tgt := 56) C (by first | assumption | omega) (by first | assumption | omega) dX9_addSplit_49 (by decide) rfl (fun c_49_11 => ?_) (fun c_49_11 => ?_)
          · refine g_iconst (pc' := 57) (v := nI 0) C dX9_addSplit_56 (by decide) rfl ?_
            refine g_put (pc' := 60) (ws' := [(u0, .inr (8, [.int (nI 0), .int (nI n), .ref u1, .ref u2, .int (nI ds), .ref u3, .int (nI mc), .ref u4, .ref u5, .ref u6, .ref u7, .ref u8, .int (nI len), .ref u9, .int (nI ba), .int (nI sm), .ref ua, .ref ub, .ref uc, .ref ud, .ref ue, .int (nI dy), .ref uf, .ref ug])), (u4, .inl (κ.2 1, 8, .inl (zA th))), (u5, .inl (κ.2 0, 8, .inl (nA ck))), (u6, .inl (κ.2 0, 8, .inl (oA rc))), (u8, .inl (κ.2 0, 32, .inl (oA pf)))]) C fp_RX9_63_8 0 rfl rfl rfl (Nat.le_of_ble_eq_true rfl) rfl dX9_addSplit_57 rfl ?_
            refine g_aload_n (pc' := 61) C 0 dX9_addSplit_60 rfl rfl rfl ?_
            refine g_get (pc' := 64) C fl_RX9_63_8 0 rfl rfl dX9_addSplit_61 rfl ?_
            refine g_if_leN (pc' := 67) (tgt := 69) C (by first | assumption | omega) dX9_addSplit_64 (by decide) rfl (fun _ => ?_) (fun z => absurd z (by decide))
            obtain ⟨w9, -, hw9, rfl⟩ := inZ_w c_5_2 (by decide)
            obtain ⟨w8, -, hw8, rfl⟩ := inZ_w c_12_5 (by decide)
            obtain ⟨r9, -, hr9, rfl⟩ := inZ_w c_25_7 (by decide)
            obtain ⟨k9, -, hk9, rfl⟩ := inZ_w c_36_10 (by decide)
            refine g_aload_n (pc' := 70) C 0 dX9_addSplit_69 rfl rfl rfl ?_
            refine g_get (pc' := 73) C fl_RX9_32_8 0 rfl rfl dX9_addSplit_70 rfl ?_
            refine g_iconst (pc' := 74) (v := nI 4) C dX9_addSplit_73 (by decide) rfl ?_
            refine g_aload_n (pc' := 75) C 0 dX9_addSplit_74 rfl rfl rfl ?_
            refine g_get (pc' := 78) C fl_RX9_70_8 0 rfl rfl dX9_addSplit_75 rfl ?_
            refine g_imul (pc' := 79) (v := nI (4 * mc)) C dX9_addSplit_78 (pk_mul _ _) rfl ?_
            refine g_iload_n (pc' := 80) C 1 dX9_addSplit_79 rfl rfl rfl ?_
            refine g_iastO (pc' := 81) (x := some w9) (ws' := [(u0, .inr (8, [.int (nI 0), .int (nI n), .ref u1, .ref u2, .int (nI ds), .ref u3, .int (nI mc), .ref u4, .ref u5, .ref u6, .ref u7, .ref u8, .int (nI len), .ref u9, .int (nI ba), .int (nI sm), .ref ua, .ref ub, .ref uc, .ref ud, .ref ue, .int (nI dy), .ref uf, .ref ug])), (u4, .inl (κ.2 1, 8, .inl (zA th))), (u5, .inl (κ.2 0, 8, .inl (nA ck))), (u6, .inl (κ.2 0, 8, .inl (oA rc))), (u8, .inl (κ.2 0, 32, .inl (oA (va_up pf (4 * mc) (some w9)))))]) C 4 rfl rfl (4 * mc) (by first | assumption | omega) (by decide) rfl dX9_addSplit_80 rfl ?_
            refine g_aload_n (pc' := 82) C 0 dX9_addSplit_81 rfl rfl rfl ?_
            refine g_get (pc' := 85) C fl_RX9_32_8 0 rfl rfl dX9_addSplit_82 rfl ?_
            refine g_iconst (pc' := 86) (v := nI 4) C dX9_addSplit_85 (by decide) rfl ?_
            refine g_aload_n (pc' := 87) C 0 dX9_addSplit_86 rfl rfl rfl ?_
            refine g_get (pc' := 90) C fl_RX9_70_8 0 rfl rfl dX9_addSplit_87 rfl ?_
            refine g_imul (pc' := 91) (v := nI (4 * mc)) C dX9_addSplit_90 (pk_mul _ _) rfl ?_
            refine g_iconst (pc' := 92) (v := nI 1) C dX9_addSplit_91 (by decide) rfl ?_
            refine g_iadd (pc' := 93) (v := nI ((4 * mc) + 1)) C dX9_addSplit_92 (nI_add _ _) rfl ?_
            refine g_iload_n (pc' := 94) C 2 dX9_addSplit_93 rfl rfl rfl ?_
            refine g_iastO (pc' := 95) (x := some w8) (ws' := [(u0, .inr (8, [.int (nI 0), .int (nI n), .ref u1, .ref u2, .int (nI ds), .ref u3, .int (nI mc), .ref u4, .ref u5, .ref u6, .ref u7, .ref u8, .int (nI len), .ref u9, .int (nI ba), .int (nI sm), .ref ua, .ref ub, .ref uc, .ref ud, .ref ue, .int (nI dy), .ref uf, .ref ug])), (u4, .inl (κ.2 1, 8, .inl (zA th))), (u5, .inl (κ.2 0, 8, .inl (nA ck))), (u6, .inl (κ.2 0, 8, .inl (oA rc))), (u8, .inl (κ.2 0, 32, .inl (oA (va_up (va_up pf (4 * mc) (some w9)) ((4 * mc) + 1) (some w8)))))]) C 4 rfl rfl ((4 * mc) + 1) (by first | assumption | omega) (by decide) rfl dX9_addSplit_94 rfl ?_
            refine g_aload_n (pc' := 96) C 0 dX9_addSplit_95 rfl rfl rfl ?_
            refine g_iload (pc' := 98) C 4 dX9_addSplit_96 rfl rfl ?_
            refine g_iload_n (pc' := 99) C 3 dX9_addSplit_98 rfl rfl rfl ?_
            refine g_callMi (pc' := 102) (wr := [(u8, .inl (κ.2 0, 32, .inl (oA (va_up (va_up pf (4 * mc) (some w9)) ((4 * mc) + 1) (some w8)))))]) C hA lk_RX9_87 (kX9_makes l κ u0 u1 u2 u3 u4 u5 u6 u7 u8 u9 ua ub uc ud ue uf ug 0 n ds mc len ba sm dy th ck rc k9 (some r9) (by first | assumption | omega)) 0 rfl rfl [0, 1, 2, 3] [4] rfl rfl ⟨rfl, rfl, by decide⟩ rfl (Nat.le_of_ble_eq_true rfl) ⟨Nat.le_of_ble_eq_true rfl, Nat.le_of_ble_eq_true rfl⟩ ⟨Nat.le_of_ble_eq_true rfl, Nat.le_of_ble_eq_true rfl⟩ rfl dX9_addSplit_99 rfl (fun r_99_13 w_99_13 h_99_13 => ?_)
            obtain ⟨rfl, rfl⟩ : r_99_13 = nI mc ∧ w_99_13 = [(u0, .inr (8, [.int (nI 0), .int (nI n), .ref u1, .ref u2, .int (nI ds), .ref u3, .int (nI (mc + 1)), .ref u4, .ref u5, .ref u6, .ref u7, .ref u8, .int (nI len), .ref u9, .int (nI ba), .int (nI sm), .ref ua, .ref ub, .ref uc, .ref ud, .ref ue, .int (nI dy), .ref uf, .ref ug])), (u4, .inl (κ.2 1, 8, .inl (zA (va_up th mc true)))), (u5, .inl (κ.2 0, 8, .inl (nA (va_up ck mc k9)))), (u6, .inl (κ.2 0, 8, .inl (oA (va_up rc mc (some r9)))))] := h_99_13
            show G p l e (rmv 2 0 0) s m ([.ref u0, .int (nI w9), .int (nI w8), .int (nI r9), .int (nI k9)] : List Value).toArray below meth c κ 5 (JM A s) [(u8, .inl (κ.2 0, 32, .inl (oA (va_up (va_up pf (4 * mc) (some w9)) ((4 * mc) + 1) (some w8))))), (u0, .inr (8, [.int (nI 0), .int (nI n), .ref u1, .ref u2, .int (nI ds), .ref u3, .int (nI (mc + 1)), .ref u4, .ref u5, .ref u6, .ref u7, .ref u8, .int (nI len), .ref u9, .int (nI ba), .int (nI sm), .ref ua, .ref ub, .ref uc, .ref ud, .ref ue, .int (nI dy), .ref uf, .ref ug])), (u4, .inl (κ.2 1, 8, .inl (zA (va_up th mc true)))), (u5, .inl (κ.2 0, 8, .inl (nA (va_up ck mc k9)))), (u6, .inl (κ.2 0, 8, .inl (oA (va_up rc mc (some r9)))))] 0 0 (MQ below (QMi κ [(u0, .inr (8, [.int (nI t9), .int (nI n), .ref u1, .ref u2, .int (nI ds), .ref u3, .int (nI mc), .ref u4, .ref u5, .ref u6, .ref u7, .ref u8, .int (nI len), .ref u9, .int (nI ba), .int (nI sm), .ref ua, .ref ub, .ref uc, .ref ud, .ref ue, .int (nI dy), .ref uf, .ref ug])), (u4, .inl (κ.2 1, 8, .inl (zA th))), (u5, .inl (κ.2 0, 8, .inl (nA ck))), (u6, .inl (κ.2 0, 8, .inl (oA rc))), (u8, .inl (κ.2 0, 32, .inl (oA pf)))] s.heap.size (fun (vr_ : Int32) (vw_ : va_W) => vr_ = nI (if c_addSplit (nI w9) (nI w8) (nI r9) (nI k9) mc = 0 then mc else 0) ∧ vw_ = [(u0, .inr (8, [.int (nI (c_addSplit (nI w9) (nI w8) (nI r9) (nI k9) mc)), .int (nI n), .ref u1, .ref u2, .int (nI ds), .ref u3, .int (nI (if c_addSplit (nI w9) (nI w8) (nI r9) (nI k9) mc = 0 then mc + 1 else mc)), .ref u4, .ref u5, .ref u6, .ref u7, .ref u8, .int (nI len), .ref u9, .int (nI ba), .int (nI sm), .ref ua, .ref ub, .ref uc, .ref ud, .ref ue, .int (nI dy), .ref uf, .ref ug])), (u4, .inl (κ.2 1, 8, .inl (zA (if c_addSplit (nI w9) (nI w8) (nI r9) (nI k9) mc = 0 then va_up th mc true else th)))), (u5, .inl (κ.2 0, 8, .inl (nA (if c_addSplit (nI w9) (nI w8) (nI r9) (nI k9) mc = 0 then va_up ck mc (n9 (nI k9)) else ck)))), (u6, .inl (κ.2 0, 8, .inl (oA (if c_addSplit (nI w9) (nI w8) (nI r9) (nI k9) mc = 0 then va_up rc mc (some (n9 (nI r9))) else rc)))), (u8, .inl (κ.2 0, 32, .inl (oA (if c_addSplit (nI w9) (nI w8) (nI r9) (nI k9) mc = 0 then va_up (va_up pf (4 * mc) (some (n9 (nI w9)))) (4 * mc + 1) (some (n9 (nI w8))) else pf))))])) ([.ref u0, .int (nI w9), .int (nI w8), .int (nI r9), .int (nI k9)] : List Value).toArray s 0 0 A) 102 [(0, .ref u0), (1, .int (nI w9)), (2, .int (nI w8)), (3, .int (nI r9)), (4, .int (nI k9))] [.int (nI mc)]
            refine g_selM (ws' := [(u0, .inr (8, [.int (nI 0), .int (nI n), .ref u1, .ref u2, .int (nI ds), .ref u3, .int (nI (mc + 1)), .ref u4, .ref u5, .ref u6, .ref u7, .ref u8, .int (nI len), .ref u9, .int (nI ba), .int (nI sm), .ref ua, .ref ub, .ref uc, .ref ud, .ref ue, .int (nI dy), .ref uf, .ref ug])), (u4, .inl (κ.2 1, 8, .inl (zA (va_up th mc true)))), (u5, .inl (κ.2 0, 8, .inl (nA (va_up ck mc k9)))), (u6, .inl (κ.2 0, 8, .inl (oA (va_up rc mc (some r9))))), (u8, .inl (κ.2 0, 32, .inl (oA (va_up (va_up pf (4 * mc) (some w9)) ((4 * mc) + 1) (some w8)))))]) [1, 2, 3, 4, 0] rfl rfl ?_
            have hc9 : c_addSplit (nI w9) (nI w8) (nI r9) (nI k9) mc = 0 := by simp [c_addSplit, *] <;> omega
            exact g_retMi C hAe rfl rfl (Nat.le_of_ble_eq_true rfl) (Nat.le_of_ble_eq_true rfl) (⟨by rw [hc9] <;> (try simp only [n9_nI (show w9 < 2147483648 by omega), n9_nI (show w8 < 2147483648 by omega), n9_nI (show r9 < 2147483648 by omega), n9_nI (show k9 < 2147483648 by omega)]) <;> rfl, by rw [hc9] <;> (try simp only [n9_nI (show w9 < 2147483648 by omega), n9_nI (show w8 < 2147483648 by omega), n9_nI (show r9 < 2147483648 by omega), n9_nI (show k9 < 2147483648 by omega)]) <;> rfl⟩) dX9_addSplit_102
          · refine g_iconst (pc' := 53) (v := nI 3) C dX9_addSplit_52 (by decide) rfl ?_
            refine g_goto (tgt := 57) C dX9_addSplit_53 (by decide) ?_
            refine g_put (pc' := 60) (ws' := [(u0, .inr (8, [.int (nI 3), .int (nI n), .ref u1, .ref u2, .int (nI ds), .ref u3, .int (nI mc), .ref u4, .ref u5, .ref u6, .ref u7, .ref u8, .int (nI len), .ref u9, .int (nI ba), .int (nI sm), .ref ua, .ref ub, .ref uc, .ref ud, .ref ue, .int (nI dy), .ref uf, .ref ug])), (u4, .inl (κ.2 1, 8, .inl (zA th))), (u5, .inl (κ.2 0, 8, .inl (nA ck))), (u6, .inl (κ.2 0, 8, .inl (oA rc))), (u8, .inl (κ.2 0, 32, .inl (oA pf)))]) C fp_RX9_63_8 0 rfl rfl rfl (Nat.le_of_ble_eq_true rfl) rfl dX9_addSplit_57 rfl ?_
            refine g_aload_n (pc' := 61) C 0 dX9_addSplit_60 rfl rfl rfl ?_
            refine g_get (pc' := 64) C fl_RX9_63_8 0 rfl rfl dX9_addSplit_61 rfl ?_
            refine g_if_leN (pc' := 67) (tgt := 69) C (by first | assumption | omega) dX9_addSplit_64 (by decide) rfl (fun z => absurd z (by decide)) (fun _ => ?_)
            refine g_iconst (pc' := 68) (v := nI 0) C dX9_addSplit_67 (by decide) rfl ?_
            have hc9 : c_addSplit p0 p1 p2 p3 mc = 3 := by simp [c_addSplit, *] <;> omega
            exact g_retMi C hAe rfl rfl (Nat.le_of_ble_eq_true rfl) (Nat.le_of_ble_eq_true rfl) (⟨by rw [hc9] <;> rfl, by rw [hc9] <;> rfl⟩) dX9_addSplit_68
        · refine g_iconst (pc' := 40) (v := nI 2) C dX9_addSplit_39 (by decide) rfl ?_
          refine g_goto (tgt := 57) C dX9_addSplit_40 (by decide) ?_
          refine g_put (pc' := 60) (ws' := [(u0, .inr (8, [.int (nI 2), .int (nI n), .ref u1, .ref u2, .int (nI ds), .ref u3, .int (nI mc), .ref u4, .ref u5, .ref u6, .ref u7, .ref u8, .int (nI len), .ref u9, .int (nI ba), .int (nI sm), .ref ua, .ref ub, .ref uc, .ref ud, .ref ue, .int (nI dy), .ref uf, .ref ug])), (u4, .inl (κ.2 1, 8, .inl (zA th))), (u5, .inl (κ.2 0, 8, .inl (nA ck))), (u6, .inl (κ.2 0, 8, .inl (oA rc))), (u8, .inl (κ.2 0, 32, .inl (oA pf)))]) C fp_RX9_63_8 0 rfl rfl rfl (Nat.le_of_ble_eq_true rfl) rfl dX9_addSplit_57 rfl ?_
          refine g_aload_n (pc' := 61) C 0 dX9_addSplit_60 rfl rfl rfl ?_
          refine g_get (pc' := 64) C fl_RX9_63_8 0 rfl rfl dX9_addSplit_61 rfl ?_
          refine g_if_leN (pc' := 67) (tgt := 69) C (by first | assumption | omega) dX9_addSplit_64 (by decide) rfl (fun z => absurd z (by decide)) (fun _ => ?_)
          refine g_iconst (pc' := 68) (v := nI 0) C dX9_addSplit_67 (by decide) rfl ?_
          have hc9 : c_addSplit p0 p1 p2 p3 mc = 2 := by simp [c_addSplit, *] <;> omega
          exact g_retMi C hAe rfl rfl (Nat.le_of_ble_eq_true rfl) (Nat.le_of_ble_eq_true rfl) (⟨by rw [hc9] <;> rfl, by rw [hc9] <;> rfl⟩) dX9_addSplit_68
    · refine g_iconst (pc' := 16) (v := nI 1) C dX9_addSplit_15 (by decide) rfl ?_
      refine g_goto (tgt := 57) C dX9_addSplit_16 (by decide) ?_
      refine g_put (pc' := 60) (ws' := [(u0, .inr (8, [.int (nI 1), .int (nI n), .ref u1, .ref u2, .int (nI ds), .ref u3, .int (nI mc), .ref u4, .ref u5, .ref u6, .ref u7, .ref u8, .int (nI len), .ref u9, .int (nI ba), .int (nI sm), .ref ua, .ref ub, .ref uc, .ref ud, .ref ue, .int (nI dy), .ref uf, .ref ug])), (u4, .inl (κ.2 1, 8, .inl (zA th))), (u5, .inl (κ.2 0, 8, .inl (nA ck))), (u6, .inl (κ.2 0, 8, .inl (oA rc))), (u8, .inl (κ.2 0, 32, .inl (oA pf)))]) C fp_RX9_63_8 0 rfl rfl rfl (Nat.le_of_ble_eq_true rfl) rfl dX9_addSplit_57 rfl ?_
      refine g_aload_n (pc' := 61) C 0 dX9_addSplit_60 rfl rfl rfl ?_
      refine g_get (pc' := 64) C fl_RX9_63_8 0 rfl rfl dX9_addSplit_61 rfl ?_
      refine g_if_leN (pc' := 67) (tgt := 69) C (by first | assumption | omega) dX9_addSplit_64 (by decide) rfl (fun z => absurd z (by decide)) (fun _ => ?_)
      refine g_iconst (pc' := 68) (v := nI 0) C dX9_addSplit_67 (by decide) rfl ?_
      have hc9 : c_addSplit p0 p1 p2 p3 mc = 1 := by simp [c_addSplit, *] <;> omega
      exact g_retMi C hAe rfl rfl (Nat.le_of_ble_eq_true rfl) (Nat.le_of_ble_eq_true rfl) (⟨by rw [hc9] <;> rfl, by rw [hc9] <;> rfl⟩) dX9_addSplit_68

set_option maxHeartbeats 4000000 in
set_option maxRecDepth 100000 in
theorem kX9_takeOut (l : Launch) (κ : KK) (u0 : Nat) (u1 : Nat) (u2 : Nat) (u3 : Nat) (u4 : Nat) (u5 : Nat) (u6 : Nat) (u7 : Nat) (u8 : Nat) (u9 : Nat) (ua : Nat) (ub : Nat) (uc : Nat) (ud : Nat) (ue : Nat) (uf : Nat) (ug : Nat) (t9 : Nat) (n : Nat) (ds : Nat) (mc : Nat) (len : Nat) (ba : Nat) (sm : Nat) (dy : Nat) (th : Nat → Bool) (vf : Nat → Nat) (p0 : Int32) (hm : mc ≤ 8) (hth : ∀ e, th e = true → e < mc) (hvf : ∀ j, vf j ≤ 64) : CMi l yX9_takeOut cX9_takeOut 4 (some .int) 2 0 0 κ [.ref u0, .int p0] [(u0, .inr (8, [.int (nI t9), .int (nI n), .ref u1, .ref u2, .int (nI ds), .ref u3, .int (nI mc), .ref u4, .ref u5, .ref u6, .ref u7, .ref u8, .int (nI len), .ref u9, .int (nI ba), .int (nI sm), .ref ua, .ref ub, .ref uc, .ref ud, .ref ue, .int (nI dy), .ref uf, .ref ug])), (u4, .inl (κ.2 1, 8, .inl (zA th))), (uf, .inl (κ.2 0, 24, .inl (nA vf)))] (fun (vr_ : Int32) (vw_ : va_W) => vr_ = nI (if c_takeOut p0 th = 0 then cntB (fun r => decide (0 < vf (8 * r + n9 p0))) 3 else 0) ∧ vw_ = [(u0, .inr (8, [.int (nI (c_takeOut p0 th)), .int (nI n), .ref u1, .ref u2, .int (nI ds), .ref u3, .int (nI mc), .ref u4, .ref u5, .ref u6, .ref u7, .ref u8, .int (nI len), .ref u9, .int (nI ba), .int (nI sm), .ref ua, .ref ub, .ref uc, .ref ud, .ref ue, .int (nI dy), .ref uf, .ref ug])), (u4, .inl (κ.2 1, 8, .inl (zA (if c_takeOut p0 th = 0 then va_up th (n9 p0) false else th)))), (uf, .inl (κ.2 0, 24, .inl (nA (if c_takeOut p0 th = 0 then drf vf (n9 p0) 3 else vf))))]) := by
  refine cmi_of RX9 rfl (by decide) (Nat.le_of_ble_eq_true rfl) ?_
  intro p e s m below meth c A C hAe hA hini
  refine g_lv (lv' := [(0, .ref u0), (1, .int p0)]) [0, 1] rfl ?_
  refine g_aload_n (pc' := 1) C 0 dX9_takeOut_0 rfl rfl rfl ?_
  refine g_aload_n (pc' := 2) C 0 dX9_takeOut_1 rfl rfl rfl ?_
  refine g_iload_n (pc' := 3) C 1 dX9_takeOut_2 rfl rfl rfl ?_
  refine g_callP (pc' := 6) C lk_RX9_91 (kX9_isEntry l κ u0 u1 u2 u3 u4 u5 u6 u7 u8 u9 ua ub uc ud ue uf ug t9 n ds mc len ba sm dy th p0 (by first | assumption | omega) (by first | assumption | omega)) 0 rfl rfl [0, 1] rfl rfl (Nat.le_of_ble_eq_true rfl) ⟨Nat.le_of_ble_eq_true rfl, Nat.le_of_ble_eq_true rfl⟩ ⟨Nat.le_of_ble_eq_true rfl, Nat.le_of_ble_eq_true rfl⟩ rfl dX9_takeOut_3 rfl (fun r_3_1 h_3_1 => ?_)
  obtain rfl : r_3_1 = b2i (isE th p0) := h_3_1
  refine g_if_eqB (pc' := 9) (tgt := 13) C dX9_takeOut_6 (by decide) rfl (fun c_6_2 => ?_) (fun c_6_2 => ?_)
  · refine g_iconst (pc' := 14) (v := nI 1) C dX9_takeOut_13 (by decide) rfl ?_
    refine g_put (pc' := 17) (ws' := [(u0, .inr (8, [.int (nI 1), .int (nI n), .ref u1, .ref u2, .int (nI ds), .ref u3, .int (nI mc), .ref u4, .ref u5, .ref u6, .ref u7, .ref u8, .int (nI len), .ref u9, .int (nI ba), .int (nI sm), .ref ua, .ref ub, .ref uc, .ref ud, .ref ue, .int (nI dy), .ref uf, .ref ug])), (u4, .inl (κ.2 1, 8, .inl (zA th))), (uf, .inl (κ.2 0, 24, .inl (nA vf)))]) C fp_RX9_63_8 0 rfl rfl rfl (Nat.le_of_ble_eq_true rfl) rfl dX9_takeOut_14 rfl ?_
    refine g_iconst (pc' := 18) (v := nI 0) C dX9_takeOut_17 (by decide) rfl ?_
    refine g_istore_n (pc' := 19) (lv' := [(2, .int (nI 0)), (0, .ref u0), (1, .int p0)]) C dX9_takeOut_18 rfl (by decide) rfl rfl ?_
    refine g_iconst (pc' := 20) (v := nI 0) C dX9_takeOut_19 (by decide) rfl ?_
    refine g_istore_n (pc' := 21) (lv' := [(3, .int (nI 0)), (2, .int (nI 0)), (0, .ref u0), (1, .int p0)]) C dX9_takeOut_20 rfl (by decide) rfl rfl ?_
    refine g_iload_n (pc' := 22) C 0 dX9_takeOut_21 rfl rfl rfl ?_
    refine g_iconst (pc' := 23) (v := nI 3) C dX9_takeOut_22 (by decide) rfl ?_
    refine g_icmp_geN (pc' := 26) (tgt := 73) C (by first | assumption | omega) (by first | assumption | omega) dX9_takeOut_23 (by decide) rfl (fun z => absurd z (by decide)) (fun _ => ?_)
    refine g_aload_n (pc' := 27) C 2 dX9_takeOut_26 rfl rfl rfl ?_
    refine g_get (pc' := 30) C fl_RX9_63_8 0 rfl rfl dX9_takeOut_27 rfl ?_
    refine g_if_neN (pc' := 33) (tgt := 73) C (by first | assumption | omega) dX9_takeOut_30 (by decide) rfl (fun _ => ?_) (fun z => absurd z (by decide))
    refine g_aload_n (pc' := 74) C 2 dX9_takeOut_73 rfl rfl rfl ?_
    refine g_get (pc' := 77) C fl_RX9_63_8 0 rfl rfl dX9_takeOut_74 rfl ?_
    refine g_if_neN (pc' := 80) (tgt := 87) C (by first | assumption | omega) dX9_takeOut_77 (by decide) rfl (fun _ => ?_) (fun z => absurd z (by decide))
    refine g_iload_n (pc' := 88) C 1 dX9_takeOut_87 rfl rfl rfl ?_
    have hc9 : c_takeOut p0 th = 1 := by simp [c_takeOut, *] <;> omega
    exact g_retMi C hAe rfl rfl (Nat.le_of_ble_eq_true rfl) (Nat.le_of_ble_eq_true rfl) (⟨by rw [hc9] <;> rfl, by rw [hc9] <;> rfl⟩) dX9_takeOut_88
  · refine g_iconst (pc' := 10) (v := nI 0) C dX9_takeOut_9 (by decide) rfl ?_
    refine g_goto (tgt := 14) C dX9_takeOut_10 (by decide) ?_
    refine g_put (pc' := 17) (ws' := [(u0, .inr (8, [.int (nI 0), .int (nI n), .ref u1, .ref u2, .int (nI ds), .ref u3, .int (nI mc), .ref u4, .ref u5, .ref u6, .ref u7, .ref u8, .int (nI len), .ref u9, .int (nI ba), .int (nI sm), .ref ua, .ref ub, .ref uc, .ref ud, .ref ue, .int (nI dy), .ref uf, .ref ug])), (u4, .inl (κ.2 1, 8, .inl (zA th))), (uf, .inl (κ.2 0, 24, .inl (nA vf)))]) C fp_RX9_63_8 0 rfl rfl rfl (Nat.le_of_ble_eq_true rfl) rfl dX9_takeOut_14 rfl ?_
    have zE := c_6_2
    obtain ⟨e8, he8, rfl, te8⟩ := isE_w zE
    refine g_iconst (pc' := 18) (v := nI 0) C dX9_takeOut_17 (by decide) rfl ?_
    refine g_istore_n (pc' := 19) (lv' := [(2, .int (nI 0)), (0, .ref u0), (1, .int (nI e8))]) C dX9_takeOut_18 rfl (by decide) rfl rfl ?_
    refine g_iconst (pc' := 20) (v := nI 0) C dX9_takeOut_19 (by decide) rfl ?_
    refine g_istore_n (pc' := 21) (lv' := [(3, .int (nI 0)), (2, .int (nI 0)), (0, .ref u0), (1, .int (nI e8))]) C dX9_takeOut_20 rfl (by decide) rfl rfl ?_
    have lp_a : ∀ (fu_a : Nat) (i : Nat) (z : Nat) (v8 : Nat → Nat), (i ≤ 3) → (z = cntB (fun r => decide (0 < vf (8 * r + e8))) i) → (v8 = drf vf e8 i) → (3 - i) < fu_a → G p l e (rmv 2 0 0) s m ([.ref u0, .int (nI e8)] : List Value).toArray below meth c κ 4 (JM A s) [(u0, .inr (8, [.int (nI 0), .int (nI n), .ref u1, .ref u2, .int (nI ds), .ref u3, .int (nI mc), .ref u4, .ref u5, .ref u6, .ref u7, .ref u8, .int (nI len), .ref u9, .int (nI ba), .int (nI sm), .ref ua, .ref ub, .ref uc, .ref ud, .ref ue, .int (nI dy), .ref uf, .ref ug])), (u4, .inl (κ.2 1, 8, .inl (zA th))), (uf, .inl (κ.2 0, 24, .inl (nA v8)))] 0 0 (MQ below (QMi κ [(u0, .inr (8, [.int (nI t9), .int (nI n), .ref u1, .ref u2, .int (nI ds), .ref u3, .int (nI mc), .ref u4, .ref u5, .ref u6, .ref u7, .ref u8, .int (nI len), .ref u9, .int (nI ba), .int (nI sm), .ref ua, .ref ub, .ref uc, .ref ud, .ref ue, .int (nI dy), .ref uf, .ref ug])), (u4, .inl (κ.2 1, 8, .inl (zA th))), (uf, .inl (κ.2 0, 24, .inl (nA vf)))] s.heap.size (fun (vr_ : Int32) (vw_ : va_W) => vr_ = nI (if c_takeOut (nI e8) th = 0 then cntB (fun r => decide (0 < vf (8 * r + n9 (nI e8)))) 3 else 0) ∧ vw_ = [(u0, .inr (8, [.int (nI (c_takeOut (nI e8) th)), .int (nI n), .ref u1, .ref u2, .int (nI ds), .ref u3, .int (nI mc), .ref u4, .ref u5, .ref u6, .ref u7, .ref u8, .int (nI len), .ref u9, .int (nI ba), .int (nI sm), .ref ua, .ref ub, .ref uc, .ref ud, .ref ue, .int (nI dy), .ref uf, .ref ug])), (u4, .inl (κ.2 1, 8, .inl (zA (if c_takeOut (nI e8) th = 0 then va_up th (n9 (nI e8)) false else th)))), (uf, .inl (κ.2 0, 24, .inl (nA (if c_takeOut (nI e8) th = 0 then drf vf (n9 (nI e8)) 3 else vf))))])) ([.ref u0, .int (nI e8)] : List Value).toArray s 0 0 A) 21 [(3, .int (nI i)), (2, .int (nI z)), (0, .ref u0), (1, .int (nI e8))] [] := by
      intro fu_a
      induction fu_a with
      | zero => intro i z v8 hi hz hv8 hmu; exact absurd hmu (Nat.not_lt_zero _)
      | succ fu_a ih_a =>
        intro i z v8 hi hz hv8 hmu_a
        refine g_iload_n (pc' := 22) C 0 dX9_takeOut_21 rfl rfl rfl ?_
        refine g_iconst (pc' := 23) (v := nI 3) C dX9_takeOut_22 (by decide) rfl ?_
        refine g_icmp_geN (pc' := 26) (tgt := 73) C (by first | assumption | omega) (by first | assumption | omega) dX9_takeOut_23 (by decide) rfl (fun c_23_6 => ?_) (fun c_23_6 => ?_)
        · refine g_aload_n (pc' := 74) C 2 dX9_takeOut_73 rfl rfl rfl ?_
          refine g_get (pc' := 77) C fl_RX9_63_8 0 rfl rfl dX9_takeOut_74 rfl ?_
          refine g_if_neN (pc' := 80) (tgt := 87) C (by first | assumption | omega) dX9_takeOut_77 (by decide) rfl (fun z => absurd z (by decide)) (fun _ => ?_)
          refine g_aload_n (pc' := 81) C 2 dX9_takeOut_80 rfl rfl rfl ?_
          refine g_get (pc' := 84) C fl_RX9_19_8 0 rfl rfl dX9_takeOut_81 rfl ?_
          refine g_iload_n (pc' := 85) C 3 dX9_takeOut_84 rfl rfl rfl ?_
          refine g_iconst (pc' := 86) (v := nI 0) C dX9_takeOut_85 (by decide) rfl ?_
          refine g_zastB (pc' := 87) (ws' := [(u0, .inr (8, [.int (nI 0), .int (nI n), .ref u1, .ref u2, .int (nI ds), .ref u3, .int (nI mc), .ref u4, .ref u5, .ref u6, .ref u7, .ref u8, .int (nI len), .ref u9, .int (nI ba), .int (nI sm), .ref ua, .ref ub, .ref uc, .ref ud, .ref ue, .int (nI dy), .ref uf, .ref ug])), (u4, .inl (κ.2 1, 8, .inl (zA (va_up th e8 false)))), (uf, .inl (κ.2 0, 24, .inl (nA v8)))]) C 1 false (by rfl) rfl e8 (by first | assumption | omega) (by decide) rfl dX9_takeOut_86 rfl ?_
          refine g_iload_n (pc' := 88) C 1 dX9_takeOut_87 rfl rfl rfl ?_
          have hc9 : c_takeOut (nI e8) th = 0 := by simp [c_takeOut, *] <;> omega
          exact g_retMi C hAe rfl rfl (Nat.le_of_ble_eq_true rfl) (Nat.le_of_ble_eq_true rfl) (⟨by rw [hc9] <;> (try simp only [n9_nI (show e8 < 2147483648 by omega), hz, hv8, show i = 3 by omega]) <;> rfl, by rw [hc9] <;> (try simp only [n9_nI (show e8 < 2147483648 by omega), hz, hv8, show i = 3 by omega]) <;> rfl⟩) dX9_takeOut_88
        · refine g_aload_n (pc' := 27) C 2 dX9_takeOut_26 rfl rfl rfl ?_
          refine g_get (pc' := 30) C fl_RX9_63_8 0 rfl rfl dX9_takeOut_27 rfl ?_
          refine g_if_neN (pc' := 33) (tgt := 73) C (by first | assumption | omega) dX9_takeOut_30 (by decide) rfl (fun z => absurd z (by decide)) (fun _ => ?_)
          refine g_iload_n (pc' := 34) C 1 dX9_takeOut_33 rfl rfl rfl ?_
          refine g_aload_n (pc' := 35) C 2 dX9_takeOut_34 rfl rfl rfl ?_
          refine g_get (pc' := 38) C fl_RX9_57_8 0 rfl rfl dX9_takeOut_35 rfl ?_
          refine g_bipush (pc' := 40) (v := nI 8) C dX9_takeOut_38 (by decide) rfl ?_
          refine g_iload_n (pc' := 41) C 0 dX9_takeOut_40 rfl rfl rfl ?_
          refine g_imul (pc' := 42) (v := nI (8 * i)) C dX9_takeOut_41 (pk_mul _ _) rfl ?_
          refine g_iload_n (pc' := 43) C 3 dX9_takeOut_42 rfl rfl rfl ?_
          refine g_iadd (pc' := 44) (v := nI ((8 * i) + e8)) C dX9_takeOut_43 (nI_add _ _) rfl ?_
          refine g_ialdN (pc' := 45) C 2 (f := v8) rfl ((8 * i) + e8) (by first | assumption | omega) (by decide) dX9_takeOut_44 rfl ?_
          refine g_if_leN (pc' := 48) (tgt := 52) C (by have q9 := drf_le (e := e8) hvf i (8 * i + e8); rw [← hv8] at q9; omega) dX9_takeOut_45 (by decide) rfl (fun c_45_9 => ?_) (fun c_45_9 => ?_)
          · refine g_iconst (pc' := 53) (v := nI 0) C dX9_takeOut_52 (by decide) rfl ?_
            refine g_iadd (pc' := 54) (v := nI (z + 0)) C dX9_takeOut_53 (nI_add _ _) rfl ?_
            refine g_istore_n (pc' := 55) (lv' := [(2, .int (nI (z + 0))), (3, .int (nI i)), (0, .ref u0), (1, .int (nI e8))]) C dX9_takeOut_54 rfl (by decide) rfl rfl ?_
            refine g_aload_n (pc' := 56) C 2 dX9_takeOut_55 rfl rfl rfl ?_
            refine g_get (pc' := 59) C fl_RX9_57_8 0 rfl rfl dX9_takeOut_56 rfl ?_
            refine g_bipush (pc' := 61) (v := nI 8) C dX9_takeOut_59 (by decide) rfl ?_
            refine g_iload_n (pc' := 62) C 1 dX9_takeOut_61 rfl rfl rfl ?_
            refine g_imul (pc' := 63) (v := nI (8 * i)) C dX9_takeOut_62 (pk_mul _ _) rfl ?_
            refine g_iload_n (pc' := 64) C 3 dX9_takeOut_63 rfl rfl rfl ?_
            refine g_iadd (pc' := 65) (v := nI ((8 * i) + e8)) C dX9_takeOut_64 (nI_add _ _) rfl ?_
            refine g_iconst (pc' := 66) (v := nI 0) C dX9_takeOut_65 (by decide) rfl ?_
            refine g_iastN (pc' := 67) (ws' := [(u0, .inr (8, [.int (nI 0), .int (nI n), .ref u1, .ref u2, .int (nI ds), .ref u3, .int (nI mc), .ref u4, .ref u5, .ref u6, .ref u7, .ref u8, .int (nI len), .ref u9, .int (nI ba), .int (nI sm), .ref ua, .ref ub, .ref uc, .ref ud, .ref ue, .int (nI dy), .ref uf, .ref ug])), (u4, .inl (κ.2 1, 8, .inl (zA th))), (uf, .inl (κ.2 0, 24, .inl (nA (va_up v8 ((8 * i) + e8) 0))))]) C 2 rfl ((8 * i) + e8) (by first | assumption | omega) (by decide) rfl dX9_takeOut_66 rfl ?_
            refine g_iinc (pc' := 70) (v := nI (i + 1)) (lv' := [(3, .int (nI (i + 1))), (2, .int (nI (z + 0))), (0, .ref u0), (1, .int (nI e8))]) C 1 dX9_takeOut_67 rfl (iincN1 _) (by decide) rfl rfl ?_
            refine g_goto (tgt := 21) C dX9_takeOut_70 (by decide) ?_
            exact ih_a (i + 1) (z + 0) (va_up v8 ((8 * i) + e8) 0) (by first | assumption | omega) (by have q9 := c_45_9; rw [hv8, drf_at (Nat.le_refl _)] at q9; rw [cntB_f (by simp; omega), hz] <;> omega) (by rw [hv8]; rfl) (by omega)
          · refine g_iconst (pc' := 49) (v := nI 1) C dX9_takeOut_48 (by decide) rfl ?_
            refine g_goto (tgt := 53) C dX9_takeOut_49 (by decide) ?_
            refine g_iadd (pc' := 54) (v := nI (z + 1)) C dX9_takeOut_53 (nI_add _ _) rfl ?_
            refine g_istore_n (pc' := 55) (lv' := [(2, .int (nI (z + 1))), (3, .int (nI i)), (0, .ref u0), (1, .int (nI e8))]) C dX9_takeOut_54 rfl (by decide) rfl rfl ?_
            refine g_aload_n (pc' := 56) C 2 dX9_takeOut_55 rfl rfl rfl ?_
            refine g_get (pc' := 59) C fl_RX9_57_8 0 rfl rfl dX9_takeOut_56 rfl ?_
            refine g_bipush (pc' := 61) (v := nI 8) C dX9_takeOut_59 (by decide) rfl ?_
            refine g_iload_n (pc' := 62) C 1 dX9_takeOut_61 rfl rfl rfl ?_
            refine g_imul (pc' := 63) (v := nI (8 * i)) C dX9_takeOut_62 (pk_mul _ _) rfl ?_
            refine g_iload_n (pc' := 64) C 3 dX9_takeOut_63 rfl rfl rfl ?_
            refine g_iadd (pc' := 65) (v := nI ((8 * i) + e8)) C dX9_takeOut_64 (nI_add _ _) rfl ?_
            refine g_iconst (pc' := 66) (v := nI 0) C dX9_takeOut_65 (by decide) rfl ?_
            refine g_iastN (pc' := 67) (ws' := [(u0, .inr (8, [.int (nI 0), .int (nI n), .ref u1, .ref u2, .int (nI ds), .ref u3, .int (nI mc), .ref u4, .ref u5, .ref u6, .ref u7, .ref u8, .int (nI len), .ref u9, .int (nI ba), .int (nI sm), .ref ua, .ref ub, .ref uc, .ref ud, .ref ue, .int (nI dy), .ref uf, .ref ug])), (u4, .inl (κ.2 1, 8, .inl (zA th))), (uf, .inl (κ.2 0, 24, .inl (nA (va_up v8 ((8 * i) + e8) 0))))]) C 2 rfl ((8 * i) + e8) (by first | assumption | omega) (by decide) rfl dX9_takeOut_66 rfl ?_
            refine g_iinc (pc' := 70) (v := nI (i + 1)) (lv' := [(3, .int (nI (i + 1))), (2, .int (nI (z + 1))), (0, .ref u0), (1, .int (nI e8))]) C 1 dX9_takeOut_67 rfl (iincN1 _) (by decide) rfl rfl ?_
            refine g_goto (tgt := 21) C dX9_takeOut_70 (by decide) ?_
            exact ih_a (i + 1) (z + 1) (va_up v8 ((8 * i) + e8) 0) (by first | assumption | omega) (by have q9 := c_45_9; rw [hv8, drf_at (Nat.le_refl _)] at q9; rw [cntB_t (by simp; omega), hz] <;> omega) (by rw [hv8]; rfl) (by omega)
    exact lp_a 4 0 0 vf (Nat.zero_le _) rfl rfl (by omega)

set_option maxHeartbeats 4000000 in
set_option maxRecDepth 100000 in
theorem kX9_entries (l : Launch) (κ : KK) (u0 : Nat) (u1 : Nat) (u2 : Nat) (u3 : Nat) (u4 : Nat) (u5 : Nat) (u6 : Nat) (u7 : Nat) (u8 : Nat) (u9 : Nat) (ua : Nat) (ub : Nat) (uc : Nat) (ud : Nat) (ue : Nat) (uf : Nat) (ug : Nat) (t9 : Nat) (n : Nat) (ds : Nat) (mc : Nat) (len : Nat) (ba : Nat) (sm : Nat) (dy : Nat) (th : Nat → Bool) (hm : mc ≤ 8) (hth : ∀ e, th e = true → e < mc) : CMi l yX9_entries cX9_entries 3 (some .int) 0 0 0 κ [.ref u0] [(u0, .inr (8, [.int (nI t9), .int (nI n), .ref u1, .ref u2, .int (nI ds), .ref u3, .int (nI mc), .ref u4, .ref u5, .ref u6, .ref u7, .ref u8, .int (nI len), .ref u9, .int (nI ba), .int (nI sm), .ref ua, .ref ub, .ref uc, .ref ud, .ref ue, .int (nI dy), .ref uf, .ref ug])), (u4, .inl (κ.2 1, 8, .inl (zA th)))] (fun (vr_ : Int32) (vw_ : va_W) => vr_ = nI (cntB th 8) ∧ vw_ = [(u0, .inr (8, [.int (nI 0), .int (nI n), .ref u1, .ref u2, .int (nI ds), .ref u3, .int (nI mc), .ref u4, .ref u5, .ref u6, .ref u7, .ref u8, .int (nI len), .ref u9, .int (nI ba), .int (nI sm), .ref ua, .ref ub, .ref uc, .ref ud, .ref ue, .int (nI dy), .ref uf, .ref ug])), (u4, .inl (κ.2 1, 8, .inl (zA th)))]) := by
  refine cmi_of RX9 rfl (by decide) (Nat.le_of_ble_eq_true rfl) ?_
  intro p e s m below meth c A C hAe hA hini
  refine g_lv (lv' := [(0, .ref u0)]) [0] rfl ?_
  refine g_aload_n (pc' := 1) C 0 dX9_entries_0 rfl rfl rfl ?_
  refine g_iconst (pc' := 2) (v := nI 0) C dX9_entries_1 (by decide) rfl ?_
  refine g_put (pc' := 5) (ws' := [(u0, .inr (8, [.int (nI 0), .int (nI n), .ref u1, .ref u2, .int (nI ds), .ref u3, .int (nI mc), .ref u4, .ref u5, .ref u6, .ref u7, .ref u8, .int (nI len), .ref u9, .int (nI ba), .int (nI sm), .ref ua, .ref ub, .ref uc, .ref ud, .ref ue, .int (nI dy), .ref uf, .ref ug])), (u4, .inl (κ.2 1, 8, .inl (zA th)))]) C fp_RX9_63_8 0 rfl rfl rfl (Nat.le_of_ble_eq_true rfl) rfl dX9_entries_2 rfl ?_
  refine g_iconst (pc' := 6) (v := nI 0) C dX9_entries_5 (by decide) rfl ?_
  refine g_istore_n (pc' := 7) (lv' := [(1, .int (nI 0)), (0, .ref u0)]) C dX9_entries_6 rfl (by decide) rfl rfl ?_
  refine g_iconst (pc' := 8) (v := nI 0) C dX9_entries_7 (by decide) rfl ?_
  refine g_istore_n (pc' := 9) (lv' := [(2, .int (nI 0)), (1, .int (nI 0)), (0, .ref u0)]) C dX9_entries_8 rfl (by decide) rfl rfl ?_
  have lp_a : ∀ (fu_a : Nat) (i : Nat) (z : Nat), (i ≤ mc) → (z = cntB th i) → (mc - i) < fu_a → G p l e (rmv 0 0 0) s m ([.ref u0] : List Value).toArray below meth c κ 3 (JM A s) [(u0, .inr (8, [.int (nI 0), .int (nI n), .ref u1, .ref u2, .int (nI ds), .ref u3, .int (nI mc), .ref u4, .ref u5, .ref u6, .ref u7, .ref u8, .int (nI len), .ref u9, .int (nI ba), .int (nI sm), .ref ua, .ref ub, .ref uc, .ref ud, .ref ue, .int (nI dy), .ref uf, .ref ug])), (u4, .inl (κ.2 1, 8, .inl (zA th)))] 0 0 (MQ below (QMi κ [(u0, .inr (8, [.int (nI t9), .int (nI n), .ref u1, .ref u2, .int (nI ds), .ref u3, .int (nI mc), .ref u4, .ref u5, .ref u6, .ref u7, .ref u8, .int (nI len), .ref u9, .int (nI ba), .int (nI sm), .ref ua, .ref ub, .ref uc, .ref ud, .ref ue, .int (nI dy), .ref uf, .ref ug])), (u4, .inl (κ.2 1, 8, .inl (zA th)))] s.heap.size (fun (vr_ : Int32) (vw_ : va_W) => vr_ = nI (cntB th 8) ∧ vw_ = [(u0, .inr (8, [.int (nI 0), .int (nI n), .ref u1, .ref u2, .int (nI ds), .ref u3, .int (nI mc), .ref u4, .ref u5, .ref u6, .ref u7, .ref u8, .int (nI len), .ref u9, .int (nI ba), .int (nI sm), .ref ua, .ref ub, .ref uc, .ref ud, .ref ue, .int (nI dy), .ref uf, .ref ug])), (u4, .inl (κ.2 1, 8, .inl (zA th)))])) ([.ref u0] : List Value).toArray s 0 0 A) 9 [(2, .int (nI i)), (1, .int (nI z)), (0, .ref u0)] [] := by
    intro fu_a
    induction fu_a with
    | zero => intro i z hi hz hmu; exact absurd hmu (Nat.not_lt_zero _)
    | succ fu_a ih_a =>
      intro i z hi hz hmu_a
      refine g_iload_n (pc' := 10) C 0 dX9_entries_9 rfl rfl rfl ?_
      refine g_aload_n (pc' := 11) C 2 dX9_entries_10 rfl rfl rfl ?_
      refine g_get (pc' := 14) C fl_RX9_70_8 0 rfl rfl dX9_entries_11 rfl ?_
      refine g_icmp_geN (pc' := 17) (tgt := 40) C (by first | assumption | omega) (by first | assumption | omega) dX9_entries_14 (by decide) rfl (fun c_14_1 => ?_) (fun c_14_1 => ?_)
      · refine g_iload_n (pc' := 41) C 1 dX9_entries_40 rfl rfl rfl ?_
        have e9 : cntB th 8 = cntB th mc := cntB_more (fun j hj => by cases q : th j with | false => rfl | true => exact absurd (hth j q) (by omega)) hm
        exact g_retMi C hAe rfl rfl (Nat.le_of_ble_eq_true rfl) (Nat.le_of_ble_eq_true rfl) (⟨by rw [e9, hz, show i = mc by omega], rfl⟩) dX9_entries_41
      · refine g_iload_n (pc' := 18) C 1 dX9_entries_17 rfl rfl rfl ?_
        refine g_aload_n (pc' := 19) C 2 dX9_entries_18 rfl rfl rfl ?_
        refine g_get (pc' := 22) C fl_RX9_19_8 0 rfl rfl dX9_entries_19 rfl ?_
        refine g_iload_n (pc' := 23) C 0 dX9_entries_22 rfl rfl rfl ?_
        refine g_zaldB (pc' := 24) C 1 (f := th) rfl i (by first | assumption | omega) (by decide) dX9_entries_23 rfl ?_
        refine g_if_eqB (pc' := 27) (tgt := 31) C dX9_entries_24 (by decide) rfl (fun c_24_2 => ?_) (fun c_24_2 => ?_)
        · refine g_iconst (pc' := 32) (v := nI 0) C dX9_entries_31 (by decide) rfl ?_
          refine g_iadd (pc' := 33) (v := nI (z + 0)) C dX9_entries_32 (nI_add _ _) rfl ?_
          refine g_istore_n (pc' := 34) (lv' := [(1, .int (nI (z + 0))), (2, .int (nI i)), (0, .ref u0)]) C dX9_entries_33 rfl (by decide) rfl rfl ?_
          refine g_iinc (pc' := 37) (v := nI (i + 1)) (lv' := [(2, .int (nI (i + 1))), (1, .int (nI (z + 0))), (0, .ref u0)]) C 1 dX9_entries_34 rfl (iincN1 _) (by decide) rfl rfl ?_
          refine g_goto (tgt := 9) C dX9_entries_37 (by decide) ?_
          exact ih_a (i + 1) (z + 0) (by first | assumption | omega) (by rw [cntB_f c_24_2, hz] <;> omega) (by omega)
        · refine g_iconst (pc' := 28) (v := nI 1) C dX9_entries_27 (by decide) rfl ?_
          refine g_goto (tgt := 32) C dX9_entries_28 (by decide) ?_
          refine g_iadd (pc' := 33) (v := nI (z + 1)) C dX9_entries_32 (nI_add _ _) rfl ?_
          refine g_istore_n (pc' := 34) (lv' := [(1, .int (nI (z + 1))), (2, .int (nI i)), (0, .ref u0)]) C dX9_entries_33 rfl (by decide) rfl rfl ?_
          refine g_iinc (pc' := 37) (v := nI (i + 1)) (lv' := [(2, .int (nI (i + 1))), (1, .int (nI (z + 1))), (0, .ref u0)]) C 1 dX9_entries_34 rfl (iincN1 _) (by decide) rfl rfl ?_
          refine g_goto (tgt := 9) C dX9_entries_37 (by decide) ?_
          exact ih_a (i + 1) (z + 1) (by first | assumption | omega) (by rw [cntB_t c_24_2, hz] <;> omega) (by omega)
  exact lp_a 9 0 0 (Nat.zero_le _) rfl (by omega)

set_option maxHeartbeats 4000000 in
set_option maxRecDepth 100000 in
theorem kX9_say (l : Launch) (κ : KK) (u0 : Nat) (u1 : Nat) (u2 : Nat) (u3 : Nat) (u4 : Nat) (u5 : Nat) (u6 : Nat) (u7 : Nat) (u8 : Nat) (u9 : Nat) (ua : Nat) (ub : Nat) (uc : Nat) (ud : Nat) (ue : Nat) (uf : Nat) (ug : Nat) (t9 : Nat) (n : Nat) (ds : Nat) (mc : Nat) (len : Nat) (ba : Nat) (sm : Nat) (dy : Nat) (fw : Nat → Nat) (p0 : Int32) (hl : len ≤ 6) : CMi l yX9_say cX9_say 2 (some .int) 2 0 0 κ [.ref u0, .int p0] [(u0, .inr (8, [.int (nI t9), .int (nI n), .ref u1, .ref u2, .int (nI ds), .ref u3, .int (nI mc), .ref u4, .ref u5, .ref u6, .ref u7, .ref u8, .int (nI len), .ref u9, .int (nI ba), .int (nI sm), .ref ua, .ref ub, .ref uc, .ref ud, .ref ue, .int (nI dy), .ref uf, .ref ug])), (u9, .inl (κ.2 0, 6, .inl (nA fw)))] (fun (vr_ : Int32) (vw_ : va_W) => vr_ = nI (if c_say p0 len = 0 then len + 1 else 0) ∧ vw_ = [(u0, .inr (8, [.int (nI (c_say p0 len)), .int (nI n), .ref u1, .ref u2, .int (nI ds), .ref u3, .int (nI mc), .ref u4, .ref u5, .ref u6, .ref u7, .ref u8, .int (nI (if c_say p0 len = 0 then len + 1 else len)), .ref u9, .int (nI ba), .int (nI sm), .ref ua, .ref ub, .ref uc, .ref ud, .ref ue, .int (nI dy), .ref uf, .ref ug])), (u9, .inl (κ.2 0, 6, .inl (nA (if c_say p0 len = 0 then va_up fw len (n9 p0) else fw))))]) := by
  refine cmi_of RX9 rfl (by decide) (Nat.le_of_ble_eq_true rfl) ?_
  intro p e s m below meth c A C hAe hA hini
  refine g_lv (lv' := [(0, .ref u0), (1, .int p0)]) [0, 1] rfl ?_
  refine g_aload_n (pc' := 1) C 0 dX9_say_0 rfl rfl rfl ?_
  refine g_iload_n (pc' := 2) C 1 dX9_say_1 rfl rfl rfl ?_
  refine g_callPS (pc' := 5) C lk_RX9_76 (kX9_isWord l κ p0) [] rfl rfl (Nat.le_of_ble_eq_true rfl) ⟨Nat.le_of_ble_eq_true rfl, Nat.le_of_ble_eq_true rfl⟩ ⟨Nat.le_of_ble_eq_true rfl, Nat.le_of_ble_eq_true rfl⟩ rfl dX9_say_2 rfl (fun r_2_1 h_2_1 => ?_)
  obtain rfl : r_2_1 = b2i (inZ 0 99 p0) := h_2_1
  refine g_if_neB (pc' := 8) (tgt := 12) C dX9_say_5 (by decide) rfl (fun c_5_2 => ?_) (fun c_5_2 => ?_)
  · refine g_aload_n (pc' := 13) C 0 dX9_say_12 rfl rfl rfl ?_
    refine g_get (pc' := 16) C fl_RX9_94_8 0 rfl rfl dX9_say_13 rfl ?_
    refine g_bipush (pc' := 18) (v := nI 6) C dX9_say_16 (by decide) rfl ?_
    refine g_icmp_neN (pc' := 21) (tgt := 25) C (by first | assumption | omega) (by first | assumption | omega) dX9_say_18 (by decide) rfl (fun c_18_3 => ?_) (fun c_18_3 => ?_)
    · refine g_iconst (pc' := 26) (v := nI 0) C dX9_say_25 (by decide) rfl ?_
      refine g_put (pc' := 29) (ws' := [(u0, .inr (8, [.int (nI 0), .int (nI n), .ref u1, .ref u2, .int (nI ds), .ref u3, .int (nI mc), .ref u4, .ref u5, .ref u6, .ref u7, .ref u8, .int (nI len), .ref u9, .int (nI ba), .int (nI sm), .ref ua, .ref ub, .ref uc, .ref ud, .ref ue, .int (nI dy), .ref uf, .ref ug])), (u9, .inl (κ.2 0, 6, .inl (nA fw)))]) C fp_RX9_63_8 0 rfl rfl rfl (Nat.le_of_ble_eq_true rfl) rfl dX9_say_26 rfl ?_
      refine g_aload_n (pc' := 30) C 0 dX9_say_29 rfl rfl rfl ?_
      refine g_get (pc' := 33) C fl_RX9_63_8 0 rfl rfl dX9_say_30 rfl ?_
      refine g_if_leN (pc' := 36) (tgt := 38) C (by first | assumption | omega) dX9_say_33 (by decide) rfl (fun _ => ?_) (fun z => absurd z (by decide))
      obtain ⟨w9, -, hw9, rfl⟩ := inZ_w c_5_2 (by decide)
      refine g_aload_n (pc' := 39) C 0 dX9_say_38 rfl rfl rfl ?_
      refine g_get (pc' := 42) C fl_RX9_35_8 0 rfl rfl dX9_say_39 rfl ?_
      refine g_aload_n (pc' := 43) C 0 dX9_say_42 rfl rfl rfl ?_
      refine g_get (pc' := 46) C fl_RX9_94_8 0 rfl rfl dX9_say_43 rfl ?_
      refine g_iload_n (pc' := 47) C 1 dX9_say_46 rfl rfl rfl ?_
      refine g_iastN (pc' := 48) (ws' := [(u0, .inr (8, [.int (nI 0), .int (nI n), .ref u1, .ref u2, .int (nI ds), .ref u3, .int (nI mc), .ref u4, .ref u5, .ref u6, .ref u7, .ref u8, .int (nI len), .ref u9, .int (nI ba), .int (nI sm), .ref ua, .ref ub, .ref uc, .ref ud, .ref ue, .int (nI dy), .ref uf, .ref ug])), (u9, .inl (κ.2 0, 6, .inl (nA (va_up fw len w9))))]) C 1 rfl len (by first | assumption | omega) (by decide) rfl dX9_say_47 rfl ?_
      refine g_aload_n (pc' := 49) C 0 dX9_say_48 rfl rfl rfl ?_
      refine g_dup (pc' := 50) C dX9_say_49 rfl rfl ?_
      refine g_get (pc' := 53) C fl_RX9_94_8 0 rfl rfl dX9_say_50 rfl ?_
      refine g_iconst (pc' := 54) (v := nI 1) C dX9_say_53 (by decide) rfl ?_
      refine g_iadd (pc' := 55) (v := nI (len + 1)) C dX9_say_54 (nI_add _ _) rfl ?_
      refine g_put (pc' := 58) (ws' := [(u0, .inr (8, [.int (nI 0), .int (nI n), .ref u1, .ref u2, .int (nI ds), .ref u3, .int (nI mc), .ref u4, .ref u5, .ref u6, .ref u7, .ref u8, .int (nI (len + 1)), .ref u9, .int (nI ba), .int (nI sm), .ref ua, .ref ub, .ref uc, .ref ud, .ref ue, .int (nI dy), .ref uf, .ref ug])), (u9, .inl (κ.2 0, 6, .inl (nA (va_up fw len w9))))]) C fp_RX9_94_8 0 rfl rfl rfl (Nat.le_of_ble_eq_true rfl) rfl dX9_say_55 rfl ?_
      refine g_aload_n (pc' := 59) C 0 dX9_say_58 rfl rfl rfl ?_
      refine g_get (pc' := 62) C fl_RX9_94_8 0 rfl rfl dX9_say_59 rfl ?_
      have hc9 : c_say (nI w9) len = 0 := by simp [c_say, *] <;> omega
      exact g_retMi C hAe rfl rfl (Nat.le_of_ble_eq_true rfl) (Nat.le_of_ble_eq_true rfl) (⟨by rw [hc9] <;> (try simp only [n9_nI (show w9 < 2147483648 by omega)]) <;> rfl, by rw [hc9] <;> (try simp only [n9_nI (show w9 < 2147483648 by omega)]) <;> rfl⟩) dX9_say_62
    · refine g_iconst (pc' := 22) (v := nI 2) C dX9_say_21 (by decide) rfl ?_
      refine g_goto (tgt := 26) C dX9_say_22 (by decide) ?_
      refine g_put (pc' := 29) (ws' := [(u0, .inr (8, [.int (nI 2), .int (nI n), .ref u1, .ref u2, .int (nI ds), .ref u3, .int (nI mc), .ref u4, .ref u5, .ref u6, .ref u7, .ref u8, .int (nI len), .ref u9, .int (nI ba), .int (nI sm), .ref ua, .ref ub, .ref uc, .ref ud, .ref ue, .int (nI dy), .ref uf, .ref ug])), (u9, .inl (κ.2 0, 6, .inl (nA fw)))]) C fp_RX9_63_8 0 rfl rfl rfl (Nat.le_of_ble_eq_true rfl) rfl dX9_say_26 rfl ?_
      refine g_aload_n (pc' := 30) C 0 dX9_say_29 rfl rfl rfl ?_
      refine g_get (pc' := 33) C fl_RX9_63_8 0 rfl rfl dX9_say_30 rfl ?_
      refine g_if_leN (pc' := 36) (tgt := 38) C (by first | assumption | omega) dX9_say_33 (by decide) rfl (fun z => absurd z (by decide)) (fun _ => ?_)
      refine g_iconst (pc' := 37) (v := nI 0) C dX9_say_36 (by decide) rfl ?_
      have hc9 : c_say p0 len = 2 := by simp [c_say, *] <;> omega
      exact g_retMi C hAe rfl rfl (Nat.le_of_ble_eq_true rfl) (Nat.le_of_ble_eq_true rfl) (⟨by rw [hc9] <;> rfl, by rw [hc9] <;> rfl⟩) dX9_say_37
  · refine g_iconst (pc' := 9) (v := nI 1) C dX9_say_8 (by decide) rfl ?_
    refine g_goto (tgt := 26) C dX9_say_9 (by decide) ?_
    refine g_put (pc' := 29) (ws' := [(u0, .inr (8, [.int (nI 1), .int (nI n), .ref u1, .ref u2, .int (nI ds), .ref u3, .int (nI mc), .ref u4, .ref u5, .ref u6, .ref u7, .ref u8, .int (nI len), .ref u9, .int (nI ba), .int (nI sm), .ref ua, .ref ub, .ref uc, .ref ud, .ref ue, .int (nI dy), .ref uf, .ref ug])), (u9, .inl (κ.2 0, 6, .inl (nA fw)))]) C fp_RX9_63_8 0 rfl rfl rfl (Nat.le_of_ble_eq_true rfl) rfl dX9_say_26 rfl ?_
    refine g_aload_n (pc' := 30) C 0 dX9_say_29 rfl rfl rfl ?_
    refine g_get (pc' := 33) C fl_RX9_63_8 0 rfl rfl dX9_say_30 rfl ?_
    refine g_if_leN (pc' := 36) (tgt := 38) C (by first | assumption | omega) dX9_say_33 (by decide) rfl (fun z => absurd z (by decide)) (fun _ => ?_)
    refine g_iconst (pc' := 37) (v := nI 0) C dX9_say_36 (by decide) rfl ?_
    have hc9 : c_say p0 len = 1 := by simp [c_say, *] <;> omega
    exact g_retMi C hAe rfl rfl (Nat.le_of_ble_eq_true rfl) (Nat.le_of_ble_eq_true rfl) (⟨by rw [hc9] <;> rfl, by rw [hc9] <;> rfl⟩) dX9_say_37

set_option maxHeartbeats 4000000 in
set_option maxRecDepth 100000 in
theorem kX9_clear (l : Launch) (κ : KK) (u0 : Nat) (u1 : Nat) (u2 : Nat) (u3 : Nat) (u4 : Nat) (u5 : Nat) (u6 : Nat) (u7 : Nat) (u8 : Nat) (u9 : Nat) (ua : Nat) (ub : Nat) (uc : Nat) (ud : Nat) (ue : Nat) (uf : Nat) (ug : Nat) (t9 : Nat) (n : Nat) (ds : Nat) (mc : Nat) (len : Nat) (ba : Nat) (sm : Nat) (dy : Nat) : CMi l yX9_clear cX9_clear 2 (some .int) 0 0 0 κ [.ref u0] [(u0, .inr (8, [.int (nI t9), .int (nI n), .ref u1, .ref u2, .int (nI ds), .ref u3, .int (nI mc), .ref u4, .ref u5, .ref u6, .ref u7, .ref u8, .int (nI len), .ref u9, .int (nI ba), .int (nI sm), .ref ua, .ref ub, .ref uc, .ref ud, .ref ue, .int (nI dy), .ref uf, .ref ug]))] (fun (vr_ : Int32) (vw_ : va_W) => vr_ = nI len ∧ vw_ = [(u0, .inr (8, [.int (nI 0), .int (nI n), .ref u1, .ref u2, .int (nI ds), .ref u3, .int (nI mc), .ref u4, .ref u5, .ref u6, .ref u7, .ref u8, .int (nI 0), .ref u9, .int (nI ba), .int (nI sm), .ref ua, .ref ub, .ref uc, .ref ud, .ref ue, .int (nI dy), .ref uf, .ref ug]))]) := by
  refine cmi_of RX9 rfl (by decide) (Nat.le_of_ble_eq_true rfl) ?_
  intro p e s m below meth c A C hAe hA hini
  refine g_lv (lv' := [(0, .ref u0)]) [0] rfl ?_
  refine g_aload_n (pc' := 1) C 0 dX9_clear_0 rfl rfl rfl ?_
  refine g_iconst (pc' := 2) (v := nI 0) C dX9_clear_1 (by decide) rfl ?_
  refine g_put (pc' := 5) (ws' := [(u0, .inr (8, [.int (nI 0), .int (nI n), .ref u1, .ref u2, .int (nI ds), .ref u3, .int (nI mc), .ref u4, .ref u5, .ref u6, .ref u7, .ref u8, .int (nI len), .ref u9, .int (nI ba), .int (nI sm), .ref ua, .ref ub, .ref uc, .ref ud, .ref ue, .int (nI dy), .ref uf, .ref ug]))]) C fp_RX9_63_8 0 rfl rfl rfl (Nat.le_of_ble_eq_true rfl) rfl dX9_clear_2 rfl ?_
  refine g_aload_n (pc' := 6) C 0 dX9_clear_5 rfl rfl rfl ?_
  refine g_get (pc' := 9) C fl_RX9_94_8 0 rfl rfl dX9_clear_6 rfl ?_
  refine g_istore_n (pc' := 10) (lv' := [(1, .int (nI len)), (0, .ref u0)]) C dX9_clear_9 rfl (by decide) rfl rfl ?_
  refine g_aload_n (pc' := 11) C 1 dX9_clear_10 rfl rfl rfl ?_
  refine g_iconst (pc' := 12) (v := nI 0) C dX9_clear_11 (by decide) rfl ?_
  refine g_put (pc' := 15) (ws' := [(u0, .inr (8, [.int (nI 0), .int (nI n), .ref u1, .ref u2, .int (nI ds), .ref u3, .int (nI mc), .ref u4, .ref u5, .ref u6, .ref u7, .ref u8, .int (nI 0), .ref u9, .int (nI ba), .int (nI sm), .ref ua, .ref ub, .ref uc, .ref ud, .ref ue, .int (nI dy), .ref uf, .ref ug]))]) C fp_RX9_94_8 0 rfl rfl rfl (Nat.le_of_ble_eq_true rfl) rfl dX9_clear_12 rfl ?_
  refine g_iload_n (pc' := 16) C 0 dX9_clear_15 rfl rfl rfl ?_
  exact g_retMi C hAe rfl rfl (Nat.le_of_ble_eq_true rfl) (Nat.le_of_ble_eq_true rfl) (⟨rfl, rfl⟩) dX9_clear_16

set_option maxHeartbeats 4000000 in
set_option maxRecDepth 100000 in
theorem kX9_setBare (l : Launch) (κ : KK) (u0 : Nat) (u1 : Nat) (u2 : Nat) (u3 : Nat) (u4 : Nat) (u5 : Nat) (u6 : Nat) (u7 : Nat) (u8 : Nat) (u9 : Nat) (ua : Nat) (ub : Nat) (uc : Nat) (ud : Nat) (ue : Nat) (uf : Nat) (ug : Nat) (t9 : Nat) (n : Nat) (ds : Nat) (mc : Nat) (len : Nat) (ba : Nat) (sm : Nat) (dy : Nat) (p0 : Int32) : CMi l yX9_setBare cX9_setBare 3 (some .int) 1 0 0 κ [.ref u0, .int p0] [(u0, .inr (8, [.int (nI t9), .int (nI n), .ref u1, .ref u2, .int (nI ds), .ref u3, .int (nI mc), .ref u4, .ref u5, .ref u6, .ref u7, .ref u8, .int (nI len), .ref u9, .int (nI ba), .int (nI sm), .ref ua, .ref ub, .ref uc, .ref ud, .ref ue, .int (nI dy), .ref uf, .ref ug]))] (fun (vr_ : Int32) (vw_ : va_W) => vr_ = nI (if c_setBare p0 = 0 then ba else 0) ∧ vw_ = [(u0, .inr (8, [.int (nI (c_setBare p0)), .int (nI n), .ref u1, .ref u2, .int (nI ds), .ref u3, .int (nI mc), .ref u4, .ref u5, .ref u6, .ref u7, .ref u8, .int (nI len), .ref u9, .int (nI (if c_setBare p0 = 0 then n9 p0 else ba)), .int (nI sm), .ref ua, .ref ub, .ref uc, .ref ud, .ref ue, .int (nI dy), .ref uf, .ref ug]))]) := by
  refine cmi_of RX9 rfl (by decide) (Nat.le_of_ble_eq_true rfl) ?_
  intro p e s m below meth c A C hAe hA hini
  refine g_lv (lv' := [(0, .ref u0), (1, .int p0)]) [0, 1] rfl ?_
  refine g_aload_n (pc' := 1) C 0 dX9_setBare_0 rfl rfl rfl ?_
  refine g_iload_n (pc' := 2) C 1 dX9_setBare_1 rfl rfl rfl ?_
  refine g_iconst (pc' := 3) (v := nI 1) C dX9_setBare_2 (by decide) rfl ?_
  refine g_bipush (pc' := 5) (v := nI 50) C dX9_setBare_3 (by decide) rfl ?_
  refine g_callPS (pc' := 8) C lk_RX9_66 (kX9_in_1_50 l κ p0) [] rfl rfl (Nat.le_of_ble_eq_true rfl) ⟨Nat.le_of_ble_eq_true rfl, Nat.le_of_ble_eq_true rfl⟩ ⟨Nat.le_of_ble_eq_true rfl, Nat.le_of_ble_eq_true rfl⟩ rfl dX9_setBare_5 rfl (fun r_5_1 h_5_1 => ?_)
  obtain rfl : r_5_1 = b2i (inZ 1 50 p0) := h_5_1
  refine g_if_eqB (pc' := 11) (tgt := 15) C dX9_setBare_8 (by decide) rfl (fun c_8_2 => ?_) (fun c_8_2 => ?_)
  · refine g_iconst (pc' := 16) (v := nI 1) C dX9_setBare_15 (by decide) rfl ?_
    refine g_put (pc' := 19) (ws' := [(u0, .inr (8, [.int (nI 1), .int (nI n), .ref u1, .ref u2, .int (nI ds), .ref u3, .int (nI mc), .ref u4, .ref u5, .ref u6, .ref u7, .ref u8, .int (nI len), .ref u9, .int (nI ba), .int (nI sm), .ref ua, .ref ub, .ref uc, .ref ud, .ref ue, .int (nI dy), .ref uf, .ref ug]))]) C fp_RX9_63_8 0 rfl rfl rfl (Nat.le_of_ble_eq_true rfl) rfl dX9_setBare_16 rfl ?_
    refine g_aload_n (pc' := 20) C 0 dX9_setBare_19 rfl rfl rfl ?_
    refine g_get (pc' := 23) C fl_RX9_63_8 0 rfl rfl dX9_setBare_20 rfl ?_
    refine g_if_leN (pc' := 26) (tgt := 28) C (by first | assumption | omega) dX9_setBare_23 (by decide) rfl (fun z => absurd z (by decide)) (fun _ => ?_)
    refine g_iconst (pc' := 27) (v := nI 0) C dX9_setBare_26 (by decide) rfl ?_
    have hc9 : c_setBare p0 = 1 := by simp [c_setBare, *] <;> omega
    exact g_retMi C hAe rfl rfl (Nat.le_of_ble_eq_true rfl) (Nat.le_of_ble_eq_true rfl) (⟨by rw [hc9] <;> rfl, by rw [hc9] <;> rfl⟩) dX9_setBare_27
  · refine g_iconst (pc' := 12) (v := nI 0) C dX9_setBare_11 (by decide) rfl ?_
    refine g_goto (tgt := 16) C dX9_setBare_12 (by decide) ?_
    refine g_put (pc' := 19) (ws' := [(u0, .inr (8, [.int (nI 0), .int (nI n), .ref u1, .ref u2, .int (nI ds), .ref u3, .int (nI mc), .ref u4, .ref u5, .ref u6, .ref u7, .ref u8, .int (nI len), .ref u9, .int (nI ba), .int (nI sm), .ref ua, .ref ub, .ref uc, .ref ud, .ref ue, .int (nI dy), .ref uf, .ref ug]))]) C fp_RX9_63_8 0 rfl rfl rfl (Nat.le_of_ble_eq_true rfl) rfl dX9_setBare_16 rfl ?_
    refine g_aload_n (pc' := 20) C 0 dX9_setBare_19 rfl rfl rfl ?_
    refine g_get (pc' := 23) C fl_RX9_63_8 0 rfl rfl dX9_setBare_20 rfl ?_
    refine g_if_leN (pc' := 26) (tgt := 28) C (by first | assumption | omega) dX9_setBare_23 (by decide) rfl (fun _ => ?_) (fun z => absurd z (by decide))
    obtain ⟨w9, -, hw9, rfl⟩ := inZ_w c_8_2 (by decide)
    refine g_aload_n (pc' := 29) C 0 dX9_setBare_28 rfl rfl rfl ?_
    refine g_get (pc' := 32) C fl_RX9_38_8 0 rfl rfl dX9_setBare_29 rfl ?_
    refine g_istore_n (pc' := 33) (lv' := [(2, .int (nI ba)), (0, .ref u0), (1, .int (nI w9))]) C dX9_setBare_32 rfl (by decide) rfl rfl ?_
    refine g_aload_n (pc' := 34) C 1 dX9_setBare_33 rfl rfl rfl ?_
    refine g_iload_n (pc' := 35) C 2 dX9_setBare_34 rfl rfl rfl ?_
    refine g_put (pc' := 38) (ws' := [(u0, .inr (8, [.int (nI 0), .int (nI n), .ref u1, .ref u2, .int (nI ds), .ref u3, .int (nI mc), .ref u4, .ref u5, .ref u6, .ref u7, .ref u8, .int (nI len), .ref u9, .int (nI w9), .int (nI sm), .ref ua, .ref ub, .ref uc, .ref ud, .ref ue, .int (nI dy), .ref uf, .ref ug]))]) C fp_RX9_38_8 0 rfl rfl rfl (Nat.le_of_ble_eq_true rfl) rfl dX9_setBare_35 rfl ?_
    refine g_iload_n (pc' := 39) C 0 dX9_setBare_38 rfl rfl rfl ?_
    have hc9 : c_setBare (nI w9) = 0 := by simp [c_setBare, *] <;> omega
    exact g_retMi C hAe rfl rfl (Nat.le_of_ble_eq_true rfl) (Nat.le_of_ble_eq_true rfl) (⟨by rw [hc9] <;> (try simp only [n9_nI (show w9 < 2147483648 by omega)]) <;> rfl, by rw [hc9] <;> (try simp only [n9_nI (show w9 < 2147483648 by omega)]) <;> rfl⟩) dX9_setBare_39

set_option maxHeartbeats 4000000 in
set_option maxRecDepth 100000 in
theorem kX9_pass (l : Launch) (κ : KK) (u0 : Nat) (u1 : Nat) (u2 : Nat) (u3 : Nat) (u4 : Nat) (u5 : Nat) (u6 : Nat) (u7 : Nat) (u8 : Nat) (u9 : Nat) (ua : Nat) (ub : Nat) (uc : Nat) (ud : Nat) (ue : Nat) (uf : Nat) (ug : Nat) (t9 : Nat) (n : Nat) (ds : Nat) (mc : Nat) (len : Nat) (ba : Nat) (sm : Nat) (dy : Nat) (p0 : Int32) : CMi l yX9_pass cX9_pass 2 (some .int) 1 0 0 κ [.ref u0, .int p0] [(u0, .inr (8, [.int (nI t9), .int (nI n), .ref u1, .ref u2, .int (nI ds), .ref u3, .int (nI mc), .ref u4, .ref u5, .ref u6, .ref u7, .ref u8, .int (nI len), .ref u9, .int (nI ba), .int (nI sm), .ref ua, .ref ub, .ref uc, .ref ud, .ref ue, .int (nI dy), .ref uf, .ref ug]))] (fun (vr_ : Int32) (vw_ : va_W) => vr_ = nI (if c_pass p0 = 0 then dy + n9 p0 else 0) ∧ vw_ = [(u0, .inr (8, [.int (nI (c_pass p0)), .int (nI n), .ref u1, .ref u2, .int (nI ds), .ref u3, .int (nI mc), .ref u4, .ref u5, .ref u6, .ref u7, .ref u8, .int (nI len), .ref u9, .int (nI ba), .int (nI sm), .ref ua, .ref ub, .ref uc, .ref ud, .ref ue, .int (nI (if c_pass p0 = 0 then dy + n9 p0 else dy)), .ref uf, .ref ug]))]) := by
  refine cmi_of RX9 rfl (by decide) (Nat.le_of_ble_eq_true rfl) ?_
  intro p e s m below meth c A C hAe hA hini
  refine g_lv (lv' := [(0, .ref u0), (1, .int p0)]) [0, 1] rfl ?_
  refine g_aload_n (pc' := 1) C 0 dX9_pass_0 rfl rfl rfl ?_
  refine g_iload_n (pc' := 2) C 1 dX9_pass_1 rfl rfl rfl ?_
  refine g_iconst (pc' := 3) (v := nI 1) C dX9_pass_2 (by decide) rfl ?_
  refine g_bipush (pc' := 5) (v := nI 100) C dX9_pass_3 (by decide) rfl ?_
  refine g_callPS (pc' := 8) C lk_RX9_66 (kX9_in_1_100 l κ p0) [] rfl rfl (Nat.le_of_ble_eq_true rfl) ⟨Nat.le_of_ble_eq_true rfl, Nat.le_of_ble_eq_true rfl⟩ ⟨Nat.le_of_ble_eq_true rfl, Nat.le_of_ble_eq_true rfl⟩ rfl dX9_pass_5 rfl (fun r_5_1 h_5_1 => ?_)
  obtain rfl : r_5_1 = b2i (inZ 1 100 p0) := h_5_1
  refine g_if_eqB (pc' := 11) (tgt := 15) C dX9_pass_8 (by decide) rfl (fun c_8_2 => ?_) (fun c_8_2 => ?_)
  · refine g_iconst (pc' := 16) (v := nI 1) C dX9_pass_15 (by decide) rfl ?_
    refine g_put (pc' := 19) (ws' := [(u0, .inr (8, [.int (nI 1), .int (nI n), .ref u1, .ref u2, .int (nI ds), .ref u3, .int (nI mc), .ref u4, .ref u5, .ref u6, .ref u7, .ref u8, .int (nI len), .ref u9, .int (nI ba), .int (nI sm), .ref ua, .ref ub, .ref uc, .ref ud, .ref ue, .int (nI dy), .ref uf, .ref ug]))]) C fp_RX9_63_8 0 rfl rfl rfl (Nat.le_of_ble_eq_true rfl) rfl dX9_pass_16 rfl ?_
    refine g_aload_n (pc' := 20) C 0 dX9_pass_19 rfl rfl rfl ?_
    refine g_dup (pc' := 21) C dX9_pass_20 rfl rfl ?_
    refine g_get (pc' := 24) C fl_RX9_130_8 0 rfl rfl dX9_pass_21 rfl ?_
    refine g_aload_n (pc' := 25) C 0 dX9_pass_24 rfl rfl rfl ?_
    refine g_get (pc' := 28) C fl_RX9_63_8 0 rfl rfl dX9_pass_25 rfl ?_
    refine g_if_neN (pc' := 31) (tgt := 35) C (by first | assumption | omega) dX9_pass_28 (by decide) rfl (fun _ => ?_) (fun z => absurd z (by decide))
    refine g_iconst (pc' := 36) (v := nI 0) C dX9_pass_35 (by decide) rfl ?_
    refine g_iadd (pc' := 37) (v := nI (dy + 0)) C dX9_pass_36 (nI_add _ _) rfl ?_
    refine g_put (pc' := 40) (ws' := [(u0, .inr (8, [.int (nI 1), .int (nI n), .ref u1, .ref u2, .int (nI ds), .ref u3, .int (nI mc), .ref u4, .ref u5, .ref u6, .ref u7, .ref u8, .int (nI len), .ref u9, .int (nI ba), .int (nI sm), .ref ua, .ref ub, .ref uc, .ref ud, .ref ue, .int (nI (dy + 0)), .ref uf, .ref ug]))]) C fp_RX9_130_8 0 rfl rfl rfl (Nat.le_of_ble_eq_true rfl) rfl dX9_pass_37 rfl ?_
    refine g_aload_n (pc' := 41) C 0 dX9_pass_40 rfl rfl rfl ?_
    refine g_get (pc' := 44) C fl_RX9_63_8 0 rfl rfl dX9_pass_41 rfl ?_
    refine g_if_leN (pc' := 47) (tgt := 51) C (by first | assumption | omega) dX9_pass_44 (by decide) rfl (fun z => absurd z (by decide)) (fun _ => ?_)
    refine g_iconst (pc' := 48) (v := nI 0) C dX9_pass_47 (by decide) rfl ?_
    refine g_goto (tgt := 55) C dX9_pass_48 (by decide) ?_
    have hc9 : c_pass p0 = 1 := by simp [c_pass, *] <;> omega
    exact g_retMi C hAe rfl rfl (Nat.le_of_ble_eq_true rfl) (Nat.le_of_ble_eq_true rfl) (⟨by rw [hc9] <;> rfl, by rw [hc9] <;> rfl⟩) dX9_pass_55
  · refine g_iconst (pc' := 12) (v := nI 0) C dX9_pass_11 (by decide) rfl ?_
    refine g_goto (tgt := 16) C dX9_pass_12 (by decide) ?_
    refine g_put (pc' := 19) (ws' := [(u0, .inr (8, [.int (nI 0), .int (nI n), .ref u1, .ref u2, .int (nI ds), .ref u3, .int (nI mc), .ref u4, .ref u5, .ref u6, .ref u7, .ref u8, .int (nI len), .ref u9, .int (nI ba), .int (nI sm), .ref ua, .ref ub, .ref uc, .ref ud, .ref ue, .int (nI dy), .ref uf, .ref ug]))]) C fp_RX9_63_8 0 rfl rfl rfl (Nat.le_of_ble_eq_true rfl) rfl dX9_pass_16 rfl ?_
    obtain ⟨w9, -, hw9, rfl⟩ := inZ_w c_8_2 (by decide)
    refine g_aload_n (pc' := 20) C 0 dX9_pass_19 rfl rfl rfl ?_
    refine g_dup (pc' := 21) C dX9_pass_20 rfl rfl ?_
    refine g_get (pc' := 24) C fl_RX9_130_8 0 rfl rfl dX9_pass_21 rfl ?_
    refine g_aload_n (pc' := 25) C 0 dX9_pass_24 rfl rfl rfl ?_
    refine g_get (pc' := 28) C fl_RX9_63_8 0 rfl rfl dX9_pass_25 rfl ?_
    refine g_if_neN (pc' := 31) (tgt := 35) C (by first | assumption | omega) dX9_pass_28 (by decide) rfl (fun z => absurd z (by decide)) (fun _ => ?_)
    refine g_iload_n (pc' := 32) C 1 dX9_pass_31 rfl rfl rfl ?_
    refine g_goto (tgt := 36) C dX9_pass_32 (by decide) ?_
    refine g_iadd (pc' := 37) (v := nI (dy + w9)) C dX9_pass_36 (nI_add _ _) rfl ?_
    refine g_put (pc' := 40) (ws' := [(u0, .inr (8, [.int (nI 0), .int (nI n), .ref u1, .ref u2, .int (nI ds), .ref u3, .int (nI mc), .ref u4, .ref u5, .ref u6, .ref u7, .ref u8, .int (nI len), .ref u9, .int (nI ba), .int (nI sm), .ref ua, .ref ub, .ref uc, .ref ud, .ref ue, .int (nI (dy + w9)), .ref uf, .ref ug]))]) C fp_RX9_130_8 0 rfl rfl rfl (Nat.le_of_ble_eq_true rfl) rfl dX9_pass_37 rfl ?_
    refine g_aload_n (pc' := 41) C 0 dX9_pass_40 rfl rfl rfl ?_
    refine g_get (pc' := 44) C fl_RX9_63_8 0 rfl rfl dX9_pass_41 rfl ?_
    refine g_if_leN (pc' := 47) (tgt := 51) C (by first | assumption | omega) dX9_pass_44 (by decide) rfl (fun _ => ?_) (fun z => absurd z (by decide))
    refine g_aload_n (pc' := 52) C 0 dX9_pass_51 rfl rfl rfl ?_
    refine g_get (pc' := 55) C fl_RX9_130_8 0 rfl rfl dX9_pass_52 rfl ?_
    have hc9 : c_pass (nI w9) = 0 := by simp [c_pass, *] <;> omega
    exact g_retMi C hAe rfl rfl (Nat.le_of_ble_eq_true rfl) (Nat.le_of_ble_eq_true rfl) (⟨by rw [hc9] <;> (try simp only [n9_nI (show w9 < 2147483648 by omega)]) <;> rfl, by rw [hc9] <;> (try simp only [n9_nI (show w9 < 2147483648 by omega)]) <;> rfl⟩) dX9_pass_55

set_option maxHeartbeats 4000000 in
set_option maxRecDepth 100000 in
theorem kX9_isReader (l : Launch) (κ : KK) (u0 : Nat) (u1 : Nat) (u2 : Nat) (u3 : Nat) (u4 : Nat) (u5 : Nat) (u6 : Nat) (u7 : Nat) (u8 : Nat) (u9 : Nat) (ua : Nat) (ub : Nat) (uc : Nat) (ud : Nat) (ue : Nat) (uf : Nat) (ug : Nat) (t9 : Nat) (n : Nat) (ds : Nat) (mc : Nat) (len : Nat) (ba : Nat) (sm : Nat) (dy : Nat) (p0 : Int32) : CMi l yX9_isReader cX9_isReader 2 (some .boolean) 1 0 0 κ [.ref u0, .int p0] [(u0, .inr (8, [.int (nI t9), .int (nI n), .ref u1, .ref u2, .int (nI ds), .ref u3, .int (nI mc), .ref u4, .ref u5, .ref u6, .ref u7, .ref u8, .int (nI len), .ref u9, .int (nI ba), .int (nI sm), .ref ua, .ref ub, .ref uc, .ref ud, .ref ue, .int (nI dy), .ref uf, .ref ug]))] (fun (vr_ : Int32) (vw_ : va_W) => vr_ = b2i (inZ 0 2 p0) ∧ vw_ = [(u0, .inr (8, [.int (nI (c_reader p0)), .int (nI n), .ref u1, .ref u2, .int (nI ds), .ref u3, .int (nI mc), .ref u4, .ref u5, .ref u6, .ref u7, .ref u8, .int (nI len), .ref u9, .int (nI ba), .int (nI sm), .ref ua, .ref ub, .ref uc, .ref ud, .ref ue, .int (nI dy), .ref uf, .ref ug]))]) := by
  refine cmi_of RX9 rfl (by decide) (Nat.le_of_ble_eq_true rfl) ?_
  intro p e s m below meth c A C hAe hA hini
  refine g_lv (lv' := [(0, .ref u0), (1, .int p0)]) [0, 1] rfl ?_
  refine g_aload_n (pc' := 1) C 0 dX9_isReader_0 rfl rfl rfl ?_
  refine g_iload_n (pc' := 2) C 1 dX9_isReader_1 rfl rfl rfl ?_
  refine g_iconst (pc' := 3) (v := nI 0) C dX9_isReader_2 (by decide) rfl ?_
  refine g_iconst (pc' := 4) (v := nI 2) C dX9_isReader_3 (by decide) rfl ?_
  refine g_callPS (pc' := 7) C lk_RX9_66 (kX9_in_0_2 l κ p0) [] rfl rfl (Nat.le_of_ble_eq_true rfl) ⟨Nat.le_of_ble_eq_true rfl, Nat.le_of_ble_eq_true rfl⟩ ⟨Nat.le_of_ble_eq_true rfl, Nat.le_of_ble_eq_true rfl⟩ rfl dX9_isReader_4 rfl (fun r_4_1 h_4_1 => ?_)
  obtain rfl : r_4_1 = b2i (inZ 0 2 p0) := h_4_1
  refine g_if_eqB (pc' := 10) (tgt := 14) C dX9_isReader_7 (by decide) rfl (fun c_7_2 => ?_) (fun c_7_2 => ?_)
  · refine g_iconst (pc' := 15) (v := nI 1) C dX9_isReader_14 (by decide) rfl ?_
    refine g_put (pc' := 18) (ws' := [(u0, .inr (8, [.int (nI 1), .int (nI n), .ref u1, .ref u2, .int (nI ds), .ref u3, .int (nI mc), .ref u4, .ref u5, .ref u6, .ref u7, .ref u8, .int (nI len), .ref u9, .int (nI ba), .int (nI sm), .ref ua, .ref ub, .ref uc, .ref ud, .ref ue, .int (nI dy), .ref uf, .ref ug]))]) C fp_RX9_63_8 0 rfl rfl rfl (Nat.le_of_ble_eq_true rfl) rfl dX9_isReader_15 rfl ?_
    refine g_aload_n (pc' := 19) C 0 dX9_isReader_18 rfl rfl rfl ?_
    refine g_get (pc' := 22) C fl_RX9_63_8 0 rfl rfl dX9_isReader_19 rfl ?_
    refine g_if_neN (pc' := 25) (tgt := 29) C (by first | assumption | omega) dX9_isReader_22 (by decide) rfl (fun _ => ?_) (fun z => absurd z (by decide))
    refine g_iconst (pc' := 30) (v := nI 0) C dX9_isReader_29 (by decide) rfl ?_
    have hc9 : c_reader p0 = 1 := by simp [c_reader, *]
    exact g_retMi C hAe rfl rfl (Nat.le_of_ble_eq_true rfl) (Nat.le_of_ble_eq_true rfl) (⟨by rw [c_7_2] <;> rfl, by rw [hc9] <;> rfl⟩) dX9_isReader_30
  · refine g_iconst (pc' := 11) (v := nI 0) C dX9_isReader_10 (by decide) rfl ?_
    refine g_goto (tgt := 15) C dX9_isReader_11 (by decide) ?_
    refine g_put (pc' := 18) (ws' := [(u0, .inr (8, [.int (nI 0), .int (nI n), .ref u1, .ref u2, .int (nI ds), .ref u3, .int (nI mc), .ref u4, .ref u5, .ref u6, .ref u7, .ref u8, .int (nI len), .ref u9, .int (nI ba), .int (nI sm), .ref ua, .ref ub, .ref uc, .ref ud, .ref ue, .int (nI dy), .ref uf, .ref ug]))]) C fp_RX9_63_8 0 rfl rfl rfl (Nat.le_of_ble_eq_true rfl) rfl dX9_isReader_15 rfl ?_
    refine g_aload_n (pc' := 19) C 0 dX9_isReader_18 rfl rfl rfl ?_
    refine g_get (pc' := 22) C fl_RX9_63_8 0 rfl rfl dX9_isReader_19 rfl ?_
    refine g_if_neN (pc' := 25) (tgt := 29) C (by first | assumption | omega) dX9_isReader_22 (by decide) rfl (fun z => absurd z (by decide)) (fun _ => ?_)
    refine g_iconst (pc' := 26) (v := nI 1) C dX9_isReader_25 (by decide) rfl ?_
    refine g_goto (tgt := 30) C dX9_isReader_26 (by decide) ?_
    have hc9 : c_reader p0 = 0 := by simp [c_reader, *]
    exact g_retMi C hAe rfl rfl (Nat.le_of_ble_eq_true rfl) (Nat.le_of_ble_eq_true rfl) (⟨by rw [c_7_2] <;> rfl, by rw [hc9] <;> rfl⟩) dX9_isReader_30

set_option maxHeartbeats 4000000 in
set_option maxRecDepth 100000 in
theorem kX9_barsCard (l : Launch) (κ : KK) (u0 : Nat) (u1 : Nat) (u2 : Nat) (u3 : Nat) (u4 : Nat) (u5 : Nat) (u6 : Nat) (u7 : Nat) (u8 : Nat) (u9 : Nat) (ua : Nat) (ub : Nat) (uc : Nat) (ud : Nat) (ue : Nat) (uf : Nat) (ug : Nat) (t9 : Nat) (n : Nat) (ds : Nat) (mc : Nat) (len : Nat) (ba : Nat) (sm : Nat) (dy : Nat) (th : Nat → Bool) (p0 : Int32) (p1 : Int32) (hm : mc ≤ 8) (hth : ∀ e, th e = true → e < mc) : CMi l yX9_barsCard cX9_barsCard 3 (some .int) 2 0 0 κ [.ref u0, .int p0, .int p1] [(u0, .inr (8, [.int (nI t9), .int (nI n), .ref u1, .ref u2, .int (nI ds), .ref u3, .int (nI mc), .ref u4, .ref u5, .ref u6, .ref u7, .ref u8, .int (nI len), .ref u9, .int (nI ba), .int (nI sm), .ref ua, .ref ub, .ref uc, .ref ud, .ref ue, .int (nI dy), .ref uf, .ref ug])), (u4, .inl (κ.2 1, 8, .inl (zA th)))] (fun (vr_ : Int32) (vw_ : va_W) => vr_ = nI (c_knows p0 p1 th) ∧ vw_ = [(u0, .inr (8, [.int (nI (c_knows p0 p1 th)), .int (nI n), .ref u1, .ref u2, .int (nI ds), .ref u3, .int (nI mc), .ref u4, .ref u5, .ref u6, .ref u7, .ref u8, .int (nI len), .ref u9, .int (nI ba), .int (nI sm), .ref ua, .ref ub, .ref uc, .ref ud, .ref ue, .int (nI dy), .ref uf, .ref ug])), (u4, .inl (κ.2 1, 8, .inl (zA th)))]) := by
  refine cmi_of RX9 rfl (by decide) (Nat.le_of_ble_eq_true rfl) ?_
  intro p e s m below meth c A C hAe hA hini
  refine g_lv (lv' := [(0, .ref u0), (1, .int p0), (2, .int p1)]) [0, 1, 2] rfl ?_
  refine g_aload_n (pc' := 1) C 0 dX9_barsCard_0 rfl rfl rfl ?_
  refine g_iload_n (pc' := 2) C 1 dX9_barsCard_1 rfl rfl rfl ?_
  refine g_iconst (pc' := 3) (v := nI 0) C dX9_barsCard_2 (by decide) rfl ?_
  refine g_iconst (pc' := 4) (v := nI 2) C dX9_barsCard_3 (by decide) rfl ?_
  refine g_callPS (pc' := 7) C lk_RX9_66 (kX9_in_0_2 l κ p0) [] rfl rfl (Nat.le_of_ble_eq_true rfl) ⟨Nat.le_of_ble_eq_true rfl, Nat.le_of_ble_eq_true rfl⟩ ⟨Nat.le_of_ble_eq_true rfl, Nat.le_of_ble_eq_true rfl⟩ rfl dX9_barsCard_4 rfl (fun r_4_1 h_4_1 => ?_)
  obtain rfl : r_4_1 = b2i (inZ 0 2 p0) := h_4_1
  refine g_if_neB (pc' := 10) (tgt := 14) C dX9_barsCard_7 (by decide) rfl (fun c_7_2 => ?_) (fun c_7_2 => ?_)
  · refine g_aload_n (pc' := 15) C 0 dX9_barsCard_14 rfl rfl rfl ?_
    refine g_iload_n (pc' := 16) C 2 dX9_barsCard_15 rfl rfl rfl ?_
    refine g_callP (pc' := 19) C lk_RX9_91 (kX9_isEntry l κ u0 u1 u2 u3 u4 u5 u6 u7 u8 u9 ua ub uc ud ue uf ug t9 n ds mc len ba sm dy th p1 (by first | assumption | omega) (by first | assumption | omega)) 0 rfl rfl [0, 1] rfl rfl (Nat.le_of_ble_eq_true rfl) ⟨Nat.le_of_ble_eq_true rfl, Nat.le_of_ble_eq_true rfl⟩ ⟨Nat.le_of_ble_eq_true rfl, Nat.le_of_ble_eq_true rfl⟩ rfl dX9_barsCard_16 rfl (fun r_16_3 h_16_3 => ?_)
    obtain rfl : r_16_3 = b2i (isE th p1) := h_16_3
    refine g_if_eqB (pc' := 22) (tgt := 26) C dX9_barsCard_19 (by decide) rfl (fun c_19_4 => ?_) (fun c_19_4 => ?_)
    · refine g_iconst (pc' := 27) (v := nI 2) C dX9_barsCard_26 (by decide) rfl ?_
      refine g_put (pc' := 30) (ws' := [(u0, .inr (8, [.int (nI 2), .int (nI n), .ref u1, .ref u2, .int (nI ds), .ref u3, .int (nI mc), .ref u4, .ref u5, .ref u6, .ref u7, .ref u8, .int (nI len), .ref u9, .int (nI ba), .int (nI sm), .ref ua, .ref ub, .ref uc, .ref ud, .ref ue, .int (nI dy), .ref uf, .ref ug])), (u4, .inl (κ.2 1, 8, .inl (zA th)))]) C fp_RX9_63_8 0 rfl rfl rfl (Nat.le_of_ble_eq_true rfl) rfl dX9_barsCard_27 rfl ?_
      refine g_aload_n (pc' := 31) C 0 dX9_barsCard_30 rfl rfl rfl ?_
      refine g_get (pc' := 34) C fl_RX9_63_8 0 rfl rfl dX9_barsCard_31 rfl ?_
      have hc9 : c_knows p0 p1 th = 2 := by rw [c_knows, if_neg (by rw [c_7_2]; decide), if_pos c_19_4]
      exact g_retMi C hAe rfl rfl (Nat.le_of_ble_eq_true rfl) (Nat.le_of_ble_eq_true rfl) (⟨by rw [hc9] <;> rfl, by rw [hc9] <;> rfl⟩) dX9_barsCard_34
    · refine g_iconst (pc' := 23) (v := nI 0) C dX9_barsCard_22 (by decide) rfl ?_
      refine g_goto (tgt := 27) C dX9_barsCard_23 (by decide) ?_
      refine g_put (pc' := 30) (ws' := [(u0, .inr (8, [.int (nI 0), .int (nI n), .ref u1, .ref u2, .int (nI ds), .ref u3, .int (nI mc), .ref u4, .ref u5, .ref u6, .ref u7, .ref u8, .int (nI len), .ref u9, .int (nI ba), .int (nI sm), .ref ua, .ref ub, .ref uc, .ref ud, .ref ue, .int (nI dy), .ref uf, .ref ug])), (u4, .inl (κ.2 1, 8, .inl (zA th)))]) C fp_RX9_63_8 0 rfl rfl rfl (Nat.le_of_ble_eq_true rfl) rfl dX9_barsCard_27 rfl ?_
      refine g_aload_n (pc' := 31) C 0 dX9_barsCard_30 rfl rfl rfl ?_
      refine g_get (pc' := 34) C fl_RX9_63_8 0 rfl rfl dX9_barsCard_31 rfl ?_
      have hc9 : c_knows p0 p1 th = 0 := by rw [c_knows, if_neg (by rw [c_7_2]; decide), if_neg (by rw [c_19_4]; decide)]
      exact g_retMi C hAe rfl rfl (Nat.le_of_ble_eq_true rfl) (Nat.le_of_ble_eq_true rfl) (⟨by rw [hc9] <;> rfl, by rw [hc9] <;> rfl⟩) dX9_barsCard_34
  · refine g_iconst (pc' := 11) (v := nI 1) C dX9_barsCard_10 (by decide) rfl ?_
    refine g_goto (tgt := 27) C dX9_barsCard_11 (by decide) ?_
    refine g_put (pc' := 30) (ws' := [(u0, .inr (8, [.int (nI 1), .int (nI n), .ref u1, .ref u2, .int (nI ds), .ref u3, .int (nI mc), .ref u4, .ref u5, .ref u6, .ref u7, .ref u8, .int (nI len), .ref u9, .int (nI ba), .int (nI sm), .ref ua, .ref ub, .ref uc, .ref ud, .ref ue, .int (nI dy), .ref uf, .ref ug])), (u4, .inl (κ.2 1, 8, .inl (zA th)))]) C fp_RX9_63_8 0 rfl rfl rfl (Nat.le_of_ble_eq_true rfl) rfl dX9_barsCard_27 rfl ?_
    refine g_aload_n (pc' := 31) C 0 dX9_barsCard_30 rfl rfl rfl ?_
    refine g_get (pc' := 34) C fl_RX9_63_8 0 rfl rfl dX9_barsCard_31 rfl ?_
    have hc9 : c_knows p0 p1 th = 1 := by rw [c_knows, if_pos c_7_2]
    exact g_retMi C hAe rfl rfl (Nat.le_of_ble_eq_true rfl) (Nat.le_of_ble_eq_true rfl) (⟨by rw [hc9] <;> rfl, by rw [hc9] <;> rfl⟩) dX9_barsCard_34

set_option maxHeartbeats 4000000 in
set_option maxRecDepth 100000 in
theorem kX9_cards (l : Launch) (κ : KK) (u0 : Nat) (u1 : Nat) (u2 : Nat) (u3 : Nat) (u4 : Nat) (u5 : Nat) (u6 : Nat) (u7 : Nat) (u8 : Nat) (u9 : Nat) (ua : Nat) (ub : Nat) (uc : Nat) (ud : Nat) (ue : Nat) (uf : Nat) (ug : Nat) (t9 : Nat) (n : Nat) (ds : Nat) (mc : Nat) (len : Nat) (ba : Nat) (sm : Nat) (dy : Nat) (vf : Nat → Nat) (r9 : Nat) (hvf : ∀ j, vf j ≤ 64) (hr : r9 < 3) : CP l yX9_cards cX9_cards 4 (some .int) 0 κ [.ref u0, .int (nI r9)] [(u0, .inr (8, [.int (nI t9), .int (nI n), .ref u1, .ref u2, .int (nI ds), .ref u3, .int (nI mc), .ref u4, .ref u5, .ref u6, .ref u7, .ref u8, .int (nI len), .ref u9, .int (nI ba), .int (nI sm), .ref ua, .ref ub, .ref uc, .ref ud, .ref ue, .int (nI dy), .ref uf, .ref ug])), (uf, .inl (κ.2 0, 24, .inl (nA vf)))] (fun vr_ => vr_ = nI (ctC (fun e => vf (8 * r9 + e)) 8)) := by
  refine cp_of RX9 rfl (by decide) (Nat.le_of_ble_eq_true rfl) ?_
  intro p e s m below meth c C
  refine g_lv (lv' := [(0, .ref u0), (1, .int (nI r9))]) [0, 1] rfl ?_
  refine g_iconst (pc' := 1) (v := nI 0) C dX9_cards_0 (by decide) rfl ?_
  refine g_istore_n (pc' := 2) (lv' := [(2, .int (nI 0)), (0, .ref u0), (1, .int (nI r9))]) C dX9_cards_1 rfl (by decide) rfl rfl ?_
  refine g_iconst (pc' := 3) (v := nI 0) C dX9_cards_2 (by decide) rfl ?_
  refine g_istore_n (pc' := 4) (lv' := [(3, .int (nI 0)), (2, .int (nI 0)), (0, .ref u0), (1, .int (nI r9))]) C dX9_cards_3 rfl (by decide) rfl rfl ?_
  have lp_a : ∀ (fu_a : Nat) (i : Nat) (z : Nat), (i ≤ 8) → (z = ctC (fun e => vf (8 * r9 + e)) i) → (8 - i) < fu_a → G p l e (rmv 0 0 0) s m ([.ref u0, .int (nI r9)] : List Value).toArray below meth c κ 4 (JP s) [(u0, .inr (8, [.int (nI t9), .int (nI n), .ref u1, .ref u2, .int (nI ds), .ref u3, .int (nI mc), .ref u4, .ref u5, .ref u6, .ref u7, .ref u8, .int (nI len), .ref u9, .int (nI ba), .int (nI sm), .ref ua, .ref ub, .ref uc, .ref ud, .ref ue, .int (nI dy), .ref uf, .ref ug])), (uf, .inl (κ.2 0, 24, .inl (nA vf)))] 0 0 (MQ below (vp_Si (fun vr_ => vr_ = nI (ctC (fun e => vf (8 * r9 + e)) 8))) ([.ref u0, .int (nI r9)] : List Value).toArray s 0 0 (fun _ => False)) 4 [(3, .int (nI i)), (2, .int (nI z)), (0, .ref u0), (1, .int (nI r9))] [] := by
    intro fu_a
    induction fu_a with
    | zero => intro i z hi hz hmu; exact absurd hmu (Nat.not_lt_zero _)
    | succ fu_a ih_a =>
      intro i z hi hz hmu_a
      refine g_iload_n (pc' := 5) C 0 dX9_cards_4 rfl rfl rfl ?_
      refine g_bipush (pc' := 7) (v := nI 8) C dX9_cards_5 (by decide) rfl ?_
      refine g_icmp_geN (pc' := 10) (tgt := 38) C (by first | assumption | omega) (by first | assumption | omega) dX9_cards_7 (by decide) rfl (fun c_7_1 => ?_) (fun c_7_1 => ?_)
      · refine g_iload_n (pc' := 39) C 1 dX9_cards_38 rfl rfl rfl ?_
        exact g_retP C rfl rfl (show nI z = nI (ctC (fun e => vf (8 * r9 + e)) 8) by have e : i = 8 := (by omega); rw [hz, e]) dX9_cards_39
      · refine g_iload_n (pc' := 11) C 1 dX9_cards_10 rfl rfl rfl ?_
        refine g_aload_n (pc' := 12) C 2 dX9_cards_11 rfl rfl rfl ?_
        refine g_get (pc' := 15) C fl_RX9_57_8 0 rfl rfl dX9_cards_12 rfl ?_
        refine g_bipush (pc' := 17) (v := nI 8) C dX9_cards_15 (by decide) rfl ?_
        refine g_iload_n (pc' := 18) C 3 dX9_cards_17 rfl rfl rfl ?_
        refine g_imul (pc' := 19) (v := nI (8 * r9)) C dX9_cards_18 (pk_mul _ _) rfl ?_
        refine g_iload_n (pc' := 20) C 0 dX9_cards_19 rfl rfl rfl ?_
        refine g_iadd (pc' := 21) (v := nI ((8 * r9) + i)) C dX9_cards_20 (nI_add _ _) rfl ?_
        refine g_ialdN (pc' := 22) C 1 (f := vf) rfl ((8 * r9) + i) (by first | assumption | omega) (by decide) dX9_cards_21 rfl ?_
        refine g_if_leN (pc' := 25) (tgt := 29) C (by have q9 := hvf (8 * r9 + i); omega) dX9_cards_22 (by decide) rfl (fun c_22_2 => ?_) (fun c_22_2 => ?_)
        · refine g_iconst (pc' := 30) (v := nI 0) C dX9_cards_29 (by decide) rfl ?_
          refine g_iadd (pc' := 31) (v := nI (z + 0)) C dX9_cards_30 (nI_add _ _) rfl ?_
          refine g_istore_n (pc' := 32) (lv' := [(2, .int (nI (z + 0))), (3, .int (nI i)), (0, .ref u0), (1, .int (nI r9))]) C dX9_cards_31 rfl (by decide) rfl rfl ?_
          refine g_iinc (pc' := 35) (v := nI (i + 1)) (lv' := [(3, .int (nI (i + 1))), (2, .int (nI (z + 0))), (0, .ref u0), (1, .int (nI r9))]) C 1 dX9_cards_32 rfl (iincN1 _) (by decide) rfl rfl ?_
          refine g_goto (tgt := 4) C dX9_cards_35 (by decide) ?_
          exact ih_a (i + 1) (z + 0) (by first | assumption | omega) (by rw [ctC, if_neg (by simpa using c_22_2), hz]) (by omega)
        · refine g_iconst (pc' := 26) (v := nI 1) C dX9_cards_25 (by decide) rfl ?_
          refine g_goto (tgt := 30) C dX9_cards_26 (by decide) ?_
          refine g_iadd (pc' := 31) (v := nI (z + 1)) C dX9_cards_30 (nI_add _ _) rfl ?_
          refine g_istore_n (pc' := 32) (lv' := [(2, .int (nI (z + 1))), (3, .int (nI i)), (0, .ref u0), (1, .int (nI r9))]) C dX9_cards_31 rfl (by decide) rfl rfl ?_
          refine g_iinc (pc' := 35) (v := nI (i + 1)) (lv' := [(3, .int (nI (i + 1))), (2, .int (nI (z + 1))), (0, .ref u0), (1, .int (nI r9))]) C 1 dX9_cards_32 rfl (iincN1 _) (by decide) rfl rfl ?_
          refine g_goto (tgt := 4) C dX9_cards_35 (by decide) ?_
          exact ih_a (i + 1) (z + 1) (by first | assumption | omega) (by rw [ctC, if_pos (by simpa using c_22_2), hz]) (by omega)
  exact lp_a 9 0 0 (Nat.zero_le _) rfl (by omega)

set_option maxHeartbeats 4000000 in
set_option maxRecDepth 100000 in
theorem kX9_learn (l : Launch) (κ : KK) (u0 : Nat) (u1 : Nat) (u2 : Nat) (u3 : Nat) (u4 : Nat) (u5 : Nat) (u6 : Nat) (u7 : Nat) (u8 : Nat) (u9 : Nat) (ua : Nat) (ub : Nat) (uc : Nat) (ud : Nat) (ue : Nat) (uf : Nat) (ug : Nat) (t9 : Nat) (n : Nat) (ds : Nat) (mc : Nat) (len : Nat) (ba : Nat) (sm : Nat) (dy : Nat) (th : Nat → Bool) (vf : Nat → Nat) (df : Nat → Nat) (p0 : Int32) (p1 : Int32) (hm : mc ≤ 8) (hth : ∀ e, th e = true → e < mc) (hvf : ∀ j, vf j ≤ 64) : CMi l yX9_learn cX9_learn 4 (some .int) 3 0 0 κ [.ref u0, .int p0, .int p1] [(u0, .inr (8, [.int (nI t9), .int (nI n), .ref u1, .ref u2, .int (nI ds), .ref u3, .int (nI mc), .ref u4, .ref u5, .ref u6, .ref u7, .ref u8, .int (nI len), .ref u9, .int (nI ba), .int (nI sm), .ref ua, .ref ub, .ref uc, .ref ud, .ref ue, .int (nI dy), .ref uf, .ref ug])), (u4, .inl (κ.2 1, 8, .inl (zA th))), (uf, .inl (κ.2 0, 24, .inl (nA vf))), (ug, .inl (κ.2 0, 24, .inl (nA df)))] (fun (vr_ : Int32) (vw_ : va_W) => vr_ = nI (if d_learn p0 p1 th vf = 0 then ctC (fun e => va_up vf (8 * n9 p0 + n9 p1) 1 (8 * n9 p0 + e)) 8 else 0) ∧ vw_ = [(u0, .inr (8, [.int (nI (d_learn p0 p1 th vf)), .int (nI n), .ref u1, .ref u2, .int (nI ds), .ref u3, .int (nI mc), .ref u4, .ref u5, .ref u6, .ref u7, .ref u8, .int (nI len), .ref u9, .int (nI ba), .int (nI sm), .ref ua, .ref ub, .ref uc, .ref ud, .ref ue, .int (nI dy), .ref uf, .ref ug])), (u4, .inl (κ.2 1, 8, .inl (zA th))), (uf, .inl (κ.2 0, 24, .inl (nA (if d_learn p0 p1 th vf = 0 then va_up vf (8 * n9 p0 + n9 p1) 1 else vf)))), (ug, .inl (κ.2 0, 24, .inl (nA (if d_learn p0 p1 th vf = 0 then va_up df (8 * n9 p0 + n9 p1) (dy + 1) else df))))]) := by
  refine cmi_of RX9 rfl (by decide) (Nat.le_of_ble_eq_true rfl) ?_
  intro p e s m below meth c A C hAe hA hini
  refine g_lv (lv' := [(0, .ref u0), (1, .int p0), (2, .int p1)]) [0, 1, 2] rfl ?_
  refine g_aload_n (pc' := 1) C 0 dX9_learn_0 rfl rfl rfl ?_
  refine g_iload_n (pc' := 2) C 1 dX9_learn_1 rfl rfl rfl ?_
  refine g_iload_n (pc' := 3) C 2 dX9_learn_2 rfl rfl rfl ?_
  refine g_callMi (pc' := 6) (wr := [(uf, .inl (κ.2 0, 24, .inl (nA vf))), (ug, .inl (κ.2 0, 24, .inl (nA df)))]) C hA lk_RX9_124 (kX9_barsCard l κ u0 u1 u2 u3 u4 u5 u6 u7 u8 u9 ua ub uc ud ue uf ug t9 n ds mc len ba sm dy th p0 p1 (by first | assumption | omega) (by first | assumption | omega)) 0 rfl rfl [0, 1] [2, 3] rfl rfl ⟨rfl, rfl, by decide⟩ rfl (Nat.le_of_ble_eq_true rfl) ⟨Nat.le_of_ble_eq_true rfl, Nat.le_of_ble_eq_true rfl⟩ ⟨Nat.le_of_ble_eq_true rfl, Nat.le_of_ble_eq_true rfl⟩ rfl dX9_learn_3 rfl (fun r_3_1 w_3_1 h_3_1 => ?_)
  obtain ⟨rfl, rfl⟩ : r_3_1 = nI (c_knows p0 p1 th) ∧ w_3_1 = [(u0, .inr (8, [.int (nI (c_knows p0 p1 th)), .int (nI n), .ref u1, .ref u2, .int (nI ds), .ref u3, .int (nI mc), .ref u4, .ref u5, .ref u6, .ref u7, .ref u8, .int (nI len), .ref u9, .int (nI ba), .int (nI sm), .ref ua, .ref ub, .ref uc, .ref ud, .ref ue, .int (nI dy), .ref uf, .ref ug])), (u4, .inl (κ.2 1, 8, .inl (zA th)))] := h_3_1
  show G p l e (rmv 3 0 0) s m ([.ref u0, .int p0, .int p1] : List Value).toArray below meth c κ 4 (JM A s) [(uf, .inl (κ.2 0, 24, .inl (nA vf))), (ug, .inl (κ.2 0, 24, .inl (nA df))), (u0, .inr (8, [.int (nI (c_knows p0 p1 th)), .int (nI n), .ref u1, .ref u2, .int (nI ds), .ref u3, .int (nI mc), .ref u4, .ref u5, .ref u6, .ref u7, .ref u8, .int (nI len), .ref u9, .int (nI ba), .int (nI sm), .ref ua, .ref ub, .ref uc, .ref ud, .ref ue, .int (nI dy), .ref uf, .ref ug])), (u4, .inl (κ.2 1, 8, .inl (zA th)))] 0 0 (MQ below (QMi κ [(u0, .inr (8, [.int (nI t9), .int (nI n), .ref u1, .ref u2, .int (nI ds), .ref u3, .int (nI mc), .ref u4, .ref u5, .ref u6, .ref u7, .ref u8, .int (nI len), .ref u9, .int (nI ba), .int (nI sm), .ref ua, .ref ub, .ref uc, .ref ud, .ref ue, .int (nI dy), .ref uf, .ref ug])), (u4, .inl (κ.2 1, 8, .inl (zA th))), (uf, .inl (κ.2 0, 24, .inl (nA vf))), (ug, .inl (κ.2 0, 24, .inl (nA df)))] s.heap.size (fun (vr_ : Int32) (vw_ : va_W) => vr_ = nI (if d_learn p0 p1 th vf = 0 then ctC (fun e => va_up vf (8 * n9 p0 + n9 p1) 1 (8 * n9 p0 + e)) 8 else 0) ∧ vw_ = [(u0, .inr (8, [.int (nI (d_learn p0 p1 th vf)), .int (nI n), .ref u1, .ref u2, .int (nI ds), .ref u3, .int (nI mc), .ref u4, .ref u5, .ref u6, .ref u7, .ref u8, .int (nI len), .ref u9, .int (nI ba), .int (nI sm), .ref ua, .ref ub, .ref uc, .ref ud, .ref ue, .int (nI dy), .ref uf, .ref ug])), (u4, .inl (κ.2 1, 8, .inl (zA th))), (uf, .inl (κ.2 0, 24, .inl (nA (if d_learn p0 p1 th vf = 0 then va_up vf (8 * n9 p0 + n9 p1) 1 else vf)))), (ug, .inl (κ.2 0, 24, .inl (nA (if d_learn p0 p1 th vf = 0 then va_up df (8 * n9 p0 + n9 p1) (dy + 1) else df))))])) ([.ref u0, .int p0, .int p1] : List Value).toArray s 0 0 A) 6 [(0, .ref u0), (1, .int p0), (2, .int p1)] [.int (nI (c_knows p0 p1 th))]
  refine g_if_leN (pc' := 9) (tgt := 11) C (Nat.lt_trans c_knows_lt (by decide)) dX9_learn_6 (by decide) rfl (fun c_6_2 => ?_) (fun c_6_2 => ?_)
  · have zc := c_6_2
    obtain ⟨z0, z1⟩ := c_knows_0 (Nat.le_of_eq (by omega : c_knows p0 p1 th = 0))
    obtain ⟨r9, -, hr9, rfl⟩ := inZ_w z0 (by decide)
    obtain ⟨e8, he8, rfl, te8⟩ := isE_w z1
    have zq : c_knows (nI r9) (nI e8) th = 0 := (by omega)
    refine g_w (ws' := [(uf, .inl (κ.2 0, 24, .inl (nA vf))), (ug, .inl (κ.2 0, 24, .inl (nA df))), (u0, .inr (8, [.int (nI 0), .int (nI n), .ref u1, .ref u2, .int (nI ds), .ref u3, .int (nI mc), .ref u4, .ref u5, .ref u6, .ref u7, .ref u8, .int (nI len), .ref u9, .int (nI ba), .int (nI sm), .ref ua, .ref ub, .ref uc, .ref ud, .ref ue, .int (nI dy), .ref uf, .ref ug])), (u4, .inl (κ.2 1, 8, .inl (zA th)))]) (by rw [zq]) ?_
    refine g_bipush (pc' := 13) (v := nI 8) C dX9_learn_11 (by decide) rfl ?_
    refine g_iload_n (pc' := 14) C 1 dX9_learn_13 rfl rfl rfl ?_
    refine g_imul (pc' := 15) (v := nI (8 * r9)) C dX9_learn_14 (pk_mul _ _) rfl ?_
    refine g_iload_n (pc' := 16) C 2 dX9_learn_15 rfl rfl rfl ?_
    refine g_iadd (pc' := 17) (v := nI ((8 * r9) + e8)) C dX9_learn_16 (nI_add _ _) rfl ?_
    refine g_istore_n (pc' := 18) (lv' := [(3, .int (nI ((8 * r9) + e8))), (0, .ref u0), (1, .int (nI r9)), (2, .int (nI e8))]) C dX9_learn_17 rfl (by decide) rfl rfl ?_
    refine g_aload_n (pc' := 19) C 1 dX9_learn_18 rfl rfl rfl ?_
    refine g_get (pc' := 22) C fl_RX9_57_8 2 rfl rfl dX9_learn_19 rfl ?_
    refine g_iload_n (pc' := 23) C 0 dX9_learn_22 rfl rfl rfl ?_
    refine g_ialdN (pc' := 24) C 0 (f := vf) rfl ((8 * r9) + e8) (by first | assumption | omega) (by decide) dX9_learn_23 rfl ?_
    refine g_if_leN (pc' := 27) (tgt := 33) C (by have q9 := hvf (8 * r9 + e8); omega) dX9_learn_24 (by decide) rfl (fun c_24_3 => ?_) (fun c_24_3 => ?_)
    · refine g_aload_n (pc' := 34) C 1 dX9_learn_33 rfl rfl rfl ?_
      refine g_get (pc' := 37) C fl_RX9_57_8 2 rfl rfl dX9_learn_34 rfl ?_
      refine g_iload_n (pc' := 38) C 0 dX9_learn_37 rfl rfl rfl ?_
      refine g_iconst (pc' := 39) (v := nI 1) C dX9_learn_38 (by decide) rfl ?_
      refine g_iastN (pc' := 40) (ws' := [(uf, .inl (κ.2 0, 24, .inl (nA (va_up vf ((8 * r9) + e8) 1)))), (ug, .inl (κ.2 0, 24, .inl (nA df))), (u0, .inr (8, [.int (nI 0), .int (nI n), .ref u1, .ref u2, .int (nI ds), .ref u3, .int (nI mc), .ref u4, .ref u5, .ref u6, .ref u7, .ref u8, .int (nI len), .ref u9, .int (nI ba), .int (nI sm), .ref ua, .ref ub, .ref uc, .ref ud, .ref ue, .int (nI dy), .ref uf, .ref ug])), (u4, .inl (κ.2 1, 8, .inl (zA th)))]) C 0 rfl ((8 * r9) + e8) (by first | assumption | omega) (by decide) rfl dX9_learn_39 rfl ?_
      refine g_aload_n (pc' := 41) C 1 dX9_learn_40 rfl rfl rfl ?_
      refine g_get (pc' := 44) C fl_RX9_60_8 2 rfl rfl dX9_learn_41 rfl ?_
      refine g_iload_n (pc' := 45) C 0 dX9_learn_44 rfl rfl rfl ?_
      refine g_aload_n (pc' := 46) C 1 dX9_learn_45 rfl rfl rfl ?_
      refine g_get (pc' := 49) C fl_RX9_130_8 2 rfl rfl dX9_learn_46 rfl ?_
      refine g_iconst (pc' := 50) (v := nI 1) C dX9_learn_49 (by decide) rfl ?_
      refine g_iadd (pc' := 51) (v := nI (dy + 1)) C dX9_learn_50 (nI_add _ _) rfl ?_
      refine g_iastN (pc' := 52) (ws' := [(uf, .inl (κ.2 0, 24, .inl (nA (va_up vf ((8 * r9) + e8) 1)))), (ug, .inl (κ.2 0, 24, .inl (nA (va_up df ((8 * r9) + e8) (dy + 1))))), (u0, .inr (8, [.int (nI 0), .int (nI n), .ref u1, .ref u2, .int (nI ds), .ref u3, .int (nI mc), .ref u4, .ref u5, .ref u6, .ref u7, .ref u8, .int (nI len), .ref u9, .int (nI ba), .int (nI sm), .ref ua, .ref ub, .ref uc, .ref ud, .ref ue, .int (nI dy), .ref uf, .ref ug])), (u4, .inl (κ.2 1, 8, .inl (zA th)))]) C 1 rfl ((8 * r9) + e8) (by first | assumption | omega) (by decide) rfl dX9_learn_51 rfl ?_
      refine g_aload_n (pc' := 53) C 1 dX9_learn_52 rfl rfl rfl ?_
      refine g_iload_n (pc' := 54) C 2 dX9_learn_53 rfl rfl rfl ?_
      refine g_callP (pc' := 57) C lk_RX9_133 (kX9_cards l κ u0 u1 u2 u3 u4 u5 u6 u7 u8 u9 ua ub uc ud ue uf ug 0 n ds mc len ba sm dy (va_up vf ((8 * r9) + e8) 1) r9 (va_up_le hvf (by decide)) (by first | assumption | omega)) 2 rfl rfl [2, 0] rfl rfl (Nat.le_of_ble_eq_true rfl) ⟨Nat.le_of_ble_eq_true rfl, Nat.le_of_ble_eq_true rfl⟩ ⟨Nat.le_of_ble_eq_true rfl, Nat.le_of_ble_eq_true rfl⟩ rfl dX9_learn_54 rfl (fun r_54_4 h_54_4 => ?_)
      obtain rfl : r_54_4 = nI (ctC (fun e => (va_up vf ((8 * r9) + e8) 1) (8 * r9 + e)) 8) := h_54_4
      refine g_selM (ws' := [(u0, .inr (8, [.int (nI 0), .int (nI n), .ref u1, .ref u2, .int (nI ds), .ref u3, .int (nI mc), .ref u4, .ref u5, .ref u6, .ref u7, .ref u8, .int (nI len), .ref u9, .int (nI ba), .int (nI sm), .ref ua, .ref ub, .ref uc, .ref ud, .ref ue, .int (nI dy), .ref uf, .ref ug])), (u4, .inl (κ.2 1, 8, .inl (zA th))), (uf, .inl (κ.2 0, 24, .inl (nA (va_up vf ((8 * r9) + e8) 1)))), (ug, .inl (κ.2 0, 24, .inl (nA (va_up df ((8 * r9) + e8) (dy + 1)))))]) [2, 3, 0, 1] rfl rfl ?_
      have hc9 : d_learn (nI r9) (nI e8) th vf = 0 := by rw [d_learn, if_neg (by rw [z0]; decide), if_neg (by rw [z1]; decide), n9_nI (show r9 < 2147483648 by omega), n9_nI (show e8 < 2147483648 by omega), if_neg (by omega)]
      exact g_retMi C hAe rfl rfl (Nat.le_of_ble_eq_true rfl) (Nat.le_of_ble_eq_true rfl) (⟨by rw [hc9] <;> (try simp only [n9_nI (show r9 < 2147483648 by omega), n9_nI (show e8 < 2147483648 by omega)]) <;> rfl, by rw [hc9] <;> (try simp only [n9_nI (show r9 < 2147483648 by omega), n9_nI (show e8 < 2147483648 by omega)]) <;> rfl⟩) dX9_learn_57
    · refine g_aload_n (pc' := 28) C 1 dX9_learn_27 rfl rfl rfl ?_
      refine g_iconst (pc' := 29) (v := nI 3) C dX9_learn_28 (by decide) rfl ?_
      refine g_callMi (pc' := 32) (wr := [(uf, .inl (κ.2 0, 24, .inl (nA vf))), (ug, .inl (κ.2 0, 24, .inl (nA df))), (u4, .inl (κ.2 1, 8, .inl (zA th)))]) C hA lk_RX9_127 (kX9_fails l κ u0 u1 u2 u3 u4 u5 u6 u7 u8 u9 ua ub uc ud ue uf ug 0 n ds mc len ba sm dy 3) 2 rfl rfl [2] [0, 1, 3] rfl rfl ⟨rfl, rfl, by decide⟩ rfl (Nat.le_of_ble_eq_true rfl) ⟨Nat.le_of_ble_eq_true rfl, Nat.le_of_ble_eq_true rfl⟩ ⟨Nat.le_of_ble_eq_true rfl, Nat.le_of_ble_eq_true rfl⟩ rfl dX9_learn_29 rfl (fun r_29_5 w_29_5 h_29_5 => ?_)
      obtain ⟨rfl, rfl⟩ : r_29_5 = nI 0 ∧ w_29_5 = [(u0, .inr (8, [.int (nI 3), .int (nI n), .ref u1, .ref u2, .int (nI ds), .ref u3, .int (nI mc), .ref u4, .ref u5, .ref u6, .ref u7, .ref u8, .int (nI len), .ref u9, .int (nI ba), .int (nI sm), .ref ua, .ref ub, .ref uc, .ref ud, .ref ue, .int (nI dy), .ref uf, .ref ug]))] := h_29_5
      show G p l e (rmv 3 0 0) s m ([.ref u0, .int (nI r9), .int (nI e8)] : List Value).toArray below meth c κ 4 (JM A s) [(uf, .inl (κ.2 0, 24, .inl (nA vf))), (ug, .inl (κ.2 0, 24, .inl (nA df))), (u4, .inl (κ.2 1, 8, .inl (zA th))), (u0, .inr (8, [.int (nI 3), .int (nI n), .ref u1, .ref u2, .int (nI ds), .ref u3, .int (nI mc), .ref u4, .ref u5, .ref u6, .ref u7, .ref u8, .int (nI len), .ref u9, .int (nI ba), .int (nI sm), .ref ua, .ref ub, .ref uc, .ref ud, .ref ue, .int (nI dy), .ref uf, .ref ug]))] 0 0 (MQ below (QMi κ [(u0, .inr (8, [.int (nI t9), .int (nI n), .ref u1, .ref u2, .int (nI ds), .ref u3, .int (nI mc), .ref u4, .ref u5, .ref u6, .ref u7, .ref u8, .int (nI len), .ref u9, .int (nI ba), .int (nI sm), .ref ua, .ref ub, .ref uc, .ref ud, .ref ue, .int (nI dy), .ref uf, .ref ug])), (u4, .inl (κ.2 1, 8, .inl (zA th))), (uf, .inl (κ.2 0, 24, .inl (nA vf))), (ug, .inl (κ.2 0, 24, .inl (nA df)))] s.heap.size (fun (vr_ : Int32) (vw_ : va_W) => vr_ = nI (if d_learn (nI r9) (nI e8) th vf = 0 then ctC (fun e => va_up vf (8 * n9 (nI r9) + n9 (nI e8)) 1 (8 * n9 (nI r9) + e)) 8 else 0) ∧ vw_ = [(u0, .inr (8, [.int (nI (d_learn (nI r9) (nI e8) th vf)), .int (nI n), .ref u1, .ref u2, .int (nI ds), .ref u3, .int (nI mc), .ref u4, .ref u5, .ref u6, .ref u7, .ref u8, .int (nI len), .ref u9, .int (nI ba), .int (nI sm), .ref ua, .ref ub, .ref uc, .ref ud, .ref ue, .int (nI dy), .ref uf, .ref ug])), (u4, .inl (κ.2 1, 8, .inl (zA th))), (uf, .inl (κ.2 0, 24, .inl (nA (if d_learn (nI r9) (nI e8) th vf = 0 then va_up vf (8 * n9 (nI r9) + n9 (nI e8)) 1 else vf)))), (ug, .inl (κ.2 0, 24, .inl (nA (if d_learn (nI r9) (nI e8) th vf = 0 then va_up df (8 * n9 (nI r9) + n9 (nI e8)) (dy + 1) else df))))])) ([.ref u0, .int (nI r9), .int (nI e8)] : List Value).toArray s 0 0 A) 32 [(3, .int (nI ((8 * r9) + e8))), (0, .ref u0), (1, .int (nI r9)), (2, .int (nI e8))] [.int (nI 0)]
      refine g_selM (ws' := [(u0, .inr (8, [.int (nI 3), .int (nI n), .ref u1, .ref u2, .int (nI ds), .ref u3, .int (nI mc), .ref u4, .ref u5, .ref u6, .ref u7, .ref u8, .int (nI len), .ref u9, .int (nI ba), .int (nI sm), .ref ua, .ref ub, .ref uc, .ref ud, .ref ue, .int (nI dy), .ref uf, .ref ug])), (u4, .inl (κ.2 1, 8, .inl (zA th))), (uf, .inl (κ.2 0, 24, .inl (nA vf))), (ug, .inl (κ.2 0, 24, .inl (nA df)))]) [3, 2, 0, 1] rfl rfl ?_
      have hc9 : d_learn (nI r9) (nI e8) th vf = 3 := by rw [d_learn, if_neg (by rw [z0]; decide), if_neg (by rw [z1]; decide), n9_nI (show r9 < 2147483648 by omega), n9_nI (show e8 < 2147483648 by omega), if_pos c_24_3]
      exact g_retMi C hAe rfl rfl (Nat.le_of_ble_eq_true rfl) (Nat.le_of_ble_eq_true rfl) (⟨by rw [hc9] <;> (try simp only [n9_nI (show r9 < 2147483648 by omega), n9_nI (show e8 < 2147483648 by omega)]) <;> rfl, by rw [hc9] <;> (try simp only [n9_nI (show r9 < 2147483648 by omega), n9_nI (show e8 < 2147483648 by omega)]) <;> rfl⟩) dX9_learn_32
  · refine g_iconst (pc' := 10) (v := nI 0) C dX9_learn_9 (by decide) rfl ?_
    refine g_selM (ws' := [(u0, .inr (8, [.int (nI (c_knows p0 p1 th)), .int (nI n), .ref u1, .ref u2, .int (nI ds), .ref u3, .int (nI mc), .ref u4, .ref u5, .ref u6, .ref u7, .ref u8, .int (nI len), .ref u9, .int (nI ba), .int (nI sm), .ref ua, .ref ub, .ref uc, .ref ud, .ref ue, .int (nI dy), .ref uf, .ref ug])), (u4, .inl (κ.2 1, 8, .inl (zA th))), (uf, .inl (κ.2 0, 24, .inl (nA vf))), (ug, .inl (κ.2 0, 24, .inl (nA df)))]) [2, 3, 0, 1] rfl rfl ?_
    have hc9 := d_learn_no (vf := vf) c_6_2
    have hn9 : ¬ c_knows p0 p1 th = 0 := by omega
    exact g_retMi C hAe rfl rfl (Nat.le_of_ble_eq_true rfl) (Nat.le_of_ble_eq_true rfl) (⟨by rw [hc9, if_neg hn9], by rw [hc9, if_neg hn9, if_neg hn9]⟩) dX9_learn_10

set_option maxHeartbeats 4000000 in
set_option maxRecDepth 100000 in
theorem kX9_review (l : Launch) (κ : KK) (u0 : Nat) (u1 : Nat) (u2 : Nat) (u3 : Nat) (u4 : Nat) (u5 : Nat) (u6 : Nat) (u7 : Nat) (u8 : Nat) (u9 : Nat) (ua : Nat) (ub : Nat) (uc : Nat) (ud : Nat) (ue : Nat) (uf : Nat) (ug : Nat) (t9 : Nat) (n : Nat) (ds : Nat) (mc : Nat) (len : Nat) (ba : Nat) (sm : Nat) (dy : Nat) (th : Nat → Bool) (vf : Nat → Nat) (df : Nat → Nat) (p0 : Int32) (p1 : Int32) (gw : Bool) (hm : mc ≤ 8) (hth : ∀ e, th e = true → e < mc) (hip : ∀ j, ip (vf j)) (hdf : ∀ j, df j < 2 ^ 30) (hdy : dy < 2 ^ 30) : CMi l yX9_review cX9_review 5 (some .int) 3 0 0 κ [.ref u0, .int p0, .int p1, .int (b2i gw)] [(u0, .inr (8, [.int (nI t9), .int (nI n), .ref u1, .ref u2, .int (nI ds), .ref u3, .int (nI mc), .ref u4, .ref u5, .ref u6, .ref u7, .ref u8, .int (nI len), .ref u9, .int (nI ba), .int (nI sm), .ref ua, .ref ub, .ref uc, .ref ud, .ref ue, .int (nI dy), .ref uf, .ref ug])), (u4, .inl (κ.2 1, 8, .inl (zA th))), (uf, .inl (κ.2 0, 24, .inl (nA vf))), (ug, .inl (κ.2 0, 24, .inl (nA df)))] (fun (vr_ : Int32) (vw_ : va_W) => vr_ = nI (if d_review p0 p1 th vf df dy = 0 then rvI gw (vf (8 * n9 p0 + n9 p1)) else 0) ∧ vw_ = [(u0, .inr (8, [.int (nI (d_review p0 p1 th vf df dy)), .int (nI n), .ref u1, .ref u2, .int (nI ds), .ref u3, .int (nI mc), .ref u4, .ref u5, .ref u6, .ref u7, .ref u8, .int (nI len), .ref u9, .int (nI ba), .int (nI sm), .ref ua, .ref ub, .ref uc, .ref ud, .ref ue, .int (nI dy), .ref uf, .ref ug])), (u4, .inl (κ.2 1, 8, .inl (zA th))), (uf, .inl (κ.2 0, 24, .inl (nA (if d_review p0 p1 th vf df dy = 0 then va_up vf (8 * n9 p0 + n9 p1) (rvI gw (vf (8 * n9 p0 + n9 p1))) else vf)))), (ug, .inl (κ.2 0, 24, .inl (nA (if d_review p0 p1 th vf df dy = 0 then va_up df (8 * n9 p0 + n9 p1) (dy + rvI gw (vf (8 * n9 p0 + n9 p1))) else df))))]) := by
  refine cmi_of RX9 rfl (by decide) (Nat.le_of_ble_eq_true rfl) ?_
  intro p e s m below meth c A C hAe hA hini
  refine g_lv (lv' := [(0, .ref u0), (1, .int p0), (2, .int p1), (3, .int (b2i gw))]) [0, 1, 2, 3] rfl ?_
  refine g_aload_n (pc' := 1) C 0 dX9_review_0 rfl rfl rfl ?_
  refine g_iload_n (pc' := 2) C 1 dX9_review_1 rfl rfl rfl ?_
  refine g_iload_n (pc' := 3) C 2 dX9_review_2 rfl rfl rfl ?_
  refine g_callMi (pc' := 6) (wr := [(uf, .inl (κ.2 0, 24, .inl (nA vf))), (ug, .inl (κ.2 0, 24, .inl (nA df)))]) C hA lk_RX9_124 (kX9_barsCard l κ u0 u1 u2 u3 u4 u5 u6 u7 u8 u9 ua ub uc ud ue uf ug t9 n ds mc len ba sm dy th p0 p1 (by first | assumption | omega) (by first | assumption | omega)) 0 rfl rfl [0, 1] [2, 3] rfl rfl ⟨rfl, rfl, by decide⟩ rfl (Nat.le_of_ble_eq_true rfl) ⟨Nat.le_of_ble_eq_true rfl, Nat.le_of_ble_eq_true rfl⟩ ⟨Nat.le_of_ble_eq_true rfl, Nat.le_of_ble_eq_true rfl⟩ rfl dX9_review_3 rfl (fun r_3_1 w_3_1 h_3_1 => ?_)
  obtain ⟨rfl, rfl⟩ : r_3_1 = nI (c_knows p0 p1 th) ∧ w_3_1 = [(u0, .inr (8, [.int (nI (c_knows p0 p1 th)), .int (nI n), .ref u1, .ref u2, .int (nI ds), .ref u3, .int (nI mc), .ref u4, .ref u5, .ref u6, .ref u7, .ref u8, .int (nI len), .ref u9, .int (nI ba), .int (nI sm), .ref ua, .ref ub, .ref uc, .ref ud, .ref ue, .int (nI dy), .ref uf, .ref ug])), (u4, .inl (κ.2 1, 8, .inl (zA th)))] := h_3_1
  show G p l e (rmv 3 0 0) s m ([.ref u0, .int p0, .int p1, .int (b2i gw)] : List Value).toArray below meth c κ 5 (JM A s) [(uf, .inl (κ.2 0, 24, .inl (nA vf))), (ug, .inl (κ.2 0, 24, .inl (nA df))), (u0, .inr (8, [.int (nI (c_knows p0 p1 th)), .int (nI n), .ref u1, .ref u2, .int (nI ds), .ref u3, .int (nI mc), .ref u4, .ref u5, .ref u6, .ref u7, .ref u8, .int (nI len), .ref u9, .int (nI ba), .int (nI sm), .ref ua, .ref ub, .ref uc, .ref ud, .ref ue, .int (nI dy), .ref uf, .ref ug])), (u4, .inl (κ.2 1, 8, .inl (zA th)))] 0 0 (MQ below (QMi κ [(u0, .inr (8, [.int (nI t9), .int (nI n), .ref u1, .ref u2, .int (nI ds), .ref u3, .int (nI mc), .ref u4, .ref u5, .ref u6, .ref u7, .ref u8, .int (nI len), .ref u9, .int (nI ba), .int (nI sm), .ref ua, .ref ub, .ref uc, .ref ud, .ref ue, .int (nI dy), .ref uf, .ref ug])), (u4, .inl (κ.2 1, 8, .inl (zA th))), (uf, .inl (κ.2 0, 24, .inl (nA vf))), (ug, .inl (κ.2 0, 24, .inl (nA df)))] s.heap.size (fun (vr_ : Int32) (vw_ : va_W) => vr_ = nI (if d_review p0 p1 th vf df dy = 0 then rvI gw (vf (8 * n9 p0 + n9 p1)) else 0) ∧ vw_ = [(u0, .inr (8, [.int (nI (d_review p0 p1 th vf df dy)), .int (nI n), .ref u1, .ref u2, .int (nI ds), .ref u3, .int (nI mc), .ref u4, .ref u5, .ref u6, .ref u7, .ref u8, .int (nI len), .ref u9, .int (nI ba), .int (nI sm), .ref ua, .ref ub, .ref uc, .ref ud, .ref ue, .int (nI dy), .ref uf, .ref ug])), (u4, .inl (κ.2 1, 8, .inl (zA th))), (uf, .inl (κ.2 0, 24, .inl (nA (if d_review p0 p1 th vf df dy = 0 then va_up vf (8 * n9 p0 + n9 p1) (rvI gw (vf (8 * n9 p0 + n9 p1))) else vf)))), (ug, .inl (κ.2 0, 24, .inl (nA (if d_review p0 p1 th vf df dy = 0 then va_up df (8 * n9 p0 + n9 p1) (dy + rvI gw (vf (8 * n9 p0 + n9 p1))) else df))))])) ([.ref u0, .int p0, .int p1, .int (b2i gw)] : List Value).toArray s 0 0 A) 6 [(0, .ref u0), (1, .int p0), (2, .int p1), (3, .int (b2i gw))] [.int (nI (c_knows p0 p1 th))]
  refine g_if_leN (pc' := 9) (tgt := 11) C (Nat.lt_trans c_knows_lt (by decide)) dX9_review_6 (by decide) rfl (fun c_6_2 => ?_) (fun c_6_2 => ?_)
  · have zc := c_6_2
    obtain ⟨z0, z1⟩ := c_knows_0 (Nat.le_of_eq (by omega : c_knows p0 p1 th = 0))
    obtain ⟨r9, -, hr9, rfl⟩ := inZ_w z0 (by decide)
    obtain ⟨e8, he8, rfl, te8⟩ := isE_w z1
    have zq : c_knows (nI r9) (nI e8) th = 0 := (by omega)
    refine g_w (ws' := [(uf, .inl (κ.2 0, 24, .inl (nA vf))), (ug, .inl (κ.2 0, 24, .inl (nA df))), (u0, .inr (8, [.int (nI 0), .int (nI n), .ref u1, .ref u2, .int (nI ds), .ref u3, .int (nI mc), .ref u4, .ref u5, .ref u6, .ref u7, .ref u8, .int (nI len), .ref u9, .int (nI ba), .int (nI sm), .ref ua, .ref ub, .ref uc, .ref ud, .ref ue, .int (nI dy), .ref uf, .ref ug])), (u4, .inl (κ.2 1, 8, .inl (zA th)))]) (by rw [zq]) ?_
    refine g_bipush (pc' := 13) (v := nI 8) C dX9_review_11 (by decide) rfl ?_
    refine g_iload_n (pc' := 14) C 1 dX9_review_13 rfl rfl rfl ?_
    refine g_imul (pc' := 15) (v := nI (8 * r9)) C dX9_review_14 (pk_mul _ _) rfl ?_
    refine g_iload_n (pc' := 16) C 2 dX9_review_15 rfl rfl rfl ?_
    refine g_iadd (pc' := 17) (v := nI ((8 * r9) + e8)) C dX9_review_16 (nI_add _ _) rfl ?_
    refine g_istore (pc' := 19) (lv' := [(4, .int (nI ((8 * r9) + e8))), (0, .ref u0), (1, .int (nI r9)), (2, .int (nI e8)), (3, .int (b2i gw))]) C dX9_review_17 (by decide) rfl rfl ?_
    refine g_aload_n (pc' := 20) C 1 dX9_review_19 rfl rfl rfl ?_
    refine g_get (pc' := 23) C fl_RX9_57_8 2 rfl rfl dX9_review_20 rfl ?_
    refine g_iload (pc' := 25) C 0 dX9_review_23 rfl rfl ?_
    refine g_ialdN (pc' := 26) C 0 (f := vf) rfl ((8 * r9) + e8) (by first | assumption | omega) (by decide) dX9_review_25 rfl ?_
    refine g_if_eqN (pc' := 29) (tgt := 43) C (by have q9 := ip_le (hip (8 * r9 + e8)); omega) dX9_review_26 (by decide) rfl (fun c_26_3 => ?_) (fun c_26_3 => ?_)
    · refine g_aload_n (pc' := 44) C 1 dX9_review_43 rfl rfl rfl ?_
      refine g_iconst (pc' := 45) (v := nI 3) C dX9_review_44 (by decide) rfl ?_
      refine g_callMi (pc' := 48) (wr := [(uf, .inl (κ.2 0, 24, .inl (nA vf))), (ug, .inl (κ.2 0, 24, .inl (nA df))), (u4, .inl (κ.2 1, 8, .inl (zA th)))]) C hA lk_RX9_127 (kX9_fails l κ u0 u1 u2 u3 u4 u5 u6 u7 u8 u9 ua ub uc ud ue uf ug 0 n ds mc len ba sm dy 3) 2 rfl rfl [2] [0, 1, 3] rfl rfl ⟨rfl, rfl, by decide⟩ rfl (Nat.le_of_ble_eq_true rfl) ⟨Nat.le_of_ble_eq_true rfl, Nat.le_of_ble_eq_true rfl⟩ ⟨Nat.le_of_ble_eq_true rfl, Nat.le_of_ble_eq_true rfl⟩ rfl dX9_review_45 rfl (fun r_45_4 w_45_4 h_45_4 => ?_)
      obtain ⟨rfl, rfl⟩ : r_45_4 = nI 0 ∧ w_45_4 = [(u0, .inr (8, [.int (nI 3), .int (nI n), .ref u1, .ref u2, .int (nI ds), .ref u3, .int (nI mc), .ref u4, .ref u5, .ref u6, .ref u7, .ref u8, .int (nI len), .ref u9, .int (nI ba), .int (nI sm), .ref ua, .ref ub, .ref uc, .ref ud, .ref ue, .int (nI dy), .ref uf, .ref ug]))] := h_45_4
      show G p l e (rmv 3 0 0) s m ([.ref u0, .int (nI r9), .int (nI e8), .int (b2i gw)] : List Value).toArray below meth c κ 5 (JM A s) [(uf, .inl (κ.2 0, 24, .inl (nA vf))), (ug, .inl (κ.2 0, 24, .inl (nA df))), (u4, .inl (κ.2 1, 8, .inl (zA th))), (u0, .inr (8, [.int (nI 3), .int (nI n), .ref u1, .ref u2, .int (nI ds), .ref u3, .int (nI mc), .ref u4, .ref u5, .ref u6, .ref u7, .ref u8, .int (nI len), .ref u9, .int (nI ba), .int (nI sm), .ref ua, .ref ub, .ref uc, .ref ud, .ref ue, .int (nI dy), .ref uf, .ref ug]))] 0 0 (MQ below (QMi κ [(u0, .inr (8, [.int (nI t9), .int (nI n), .ref u1, .ref u2, .int (nI ds), .ref u3, .int (nI mc), .ref u4, .ref u5, .ref u6, .ref u7, .ref u8, .int (nI len), .ref u9, .int (nI ba), .int (nI sm), .ref ua, .ref ub, .ref uc, .ref ud, .ref ue, .int (nI dy), .ref uf, .ref ug])), (u4, .inl (κ.2 1, 8, .inl (zA th))), (uf, .inl (κ.2 0, 24, .inl (nA vf))), (ug, .inl (κ.2 0, 24, .inl (nA df)))] s.heap.size (fun (vr_ : Int32) (vw_ : va_W) => vr_ = nI (if d_review (nI r9) (nI e8) th vf df dy = 0 then rvI gw (vf (8 * n9 (nI r9) + n9 (nI e8))) else 0) ∧ vw_ = [(u0, .inr (8, [.int (nI (d_review (nI r9) (nI e8) th vf df dy)), .int (nI n), .ref u1, .ref u2, .int (nI ds), .ref u3, .int (nI mc), .ref u4, .ref u5, .ref u6, .ref u7, .ref u8, .int (nI len), .ref u9, .int (nI ba), .int (nI sm), .ref ua, .ref ub, .ref uc, .ref ud, .ref ue, .int (nI dy), .ref uf, .ref ug])), (u4, .inl (κ.2 1, 8, .inl (zA th))), (uf, .inl (κ.2 0, 24, .inl (nA (if d_review (nI r9) (nI e8) th vf df dy = 0 then va_up vf (8 * n9 (nI r9) + n9 (nI e8)) (rvI gw (vf (8 * n9 (nI r9) + n9 (nI e8)))) else vf)))), (ug, .inl (κ.2 0, 24, .inl (nA (if d_review (nI r9) (nI e8) th vf df dy = 0 then va_up df (8 * n9 (nI r9) + n9 (nI e8)) (dy + rvI gw (vf (8 * n9 (nI r9) + n9 (nI e8)))) else df))))])) ([.ref u0, .int (nI r9), .int (nI e8), .int (b2i gw)] : List Value).toArray s 0 0 A) 48 [(4, .int (nI ((8 * r9) + e8))), (0, .ref u0), (1, .int (nI r9)), (2, .int (nI e8)), (3, .int (b2i gw))] [.int (nI 0)]
      refine g_selM (ws' := [(u0, .inr (8, [.int (nI 3), .int (nI n), .ref u1, .ref u2, .int (nI ds), .ref u3, .int (nI mc), .ref u4, .ref u5, .ref u6, .ref u7, .ref u8, .int (nI len), .ref u9, .int (nI ba), .int (nI sm), .ref ua, .ref ub, .ref uc, .ref ud, .ref ue, .int (nI dy), .ref uf, .ref ug])), (u4, .inl (κ.2 1, 8, .inl (zA th))), (uf, .inl (κ.2 0, 24, .inl (nA vf))), (ug, .inl (κ.2 0, 24, .inl (nA df)))]) [3, 2, 0, 1] rfl rfl ?_
      have hc9 : d_review (nI r9) (nI e8) th vf df dy = 3 := by rw [d_review, if_neg (by rw [z0]; decide), if_neg (by rw [z1]; decide), n9_nI (show r9 < 2147483648 by omega), n9_nI (show e8 < 2147483648 by omega), if_neg (by omega)]
      exact g_retMi C hAe rfl rfl (Nat.le_of_ble_eq_true rfl) (Nat.le_of_ble_eq_true rfl) (⟨by rw [hc9] <;> (try simp only [n9_nI (show r9 < 2147483648 by omega), n9_nI (show e8 < 2147483648 by omega)]) <;> rfl, by rw [hc9] <;> (try simp only [n9_nI (show r9 < 2147483648 by omega), n9_nI (show e8 < 2147483648 by omega)]) <;> rfl⟩) dX9_review_48
    · refine g_aload_n (pc' := 30) C 1 dX9_review_29 rfl rfl rfl ?_
      refine g_get (pc' := 33) C fl_RX9_60_8 2 rfl rfl dX9_review_30 rfl ?_
      refine g_iload (pc' := 35) C 0 dX9_review_33 rfl rfl ?_
      refine g_ialdN (pc' := 36) C 1 (f := df) rfl ((8 * r9) + e8) (by first | assumption | omega) (by decide) dX9_review_35 rfl ?_
      refine g_aload_n (pc' := 37) C 1 dX9_review_36 rfl rfl rfl ?_
      refine g_get (pc' := 40) C fl_RX9_130_8 2 rfl rfl dX9_review_37 rfl ?_
      refine g_icmp_leN (pc' := 43) (tgt := 49) C (by have q9 := hdf (8 * r9 + e8); omega) (by first | assumption | omega) dX9_review_40 (by decide) rfl (fun c_40_5 => ?_) (fun c_40_5 => ?_)
      · refine g_aload_n (pc' := 50) C 1 dX9_review_49 rfl rfl rfl ?_
        refine g_get (pc' := 53) C fl_RX9_57_8 2 rfl rfl dX9_review_50 rfl ?_
        refine g_iload (pc' := 55) C 0 dX9_review_53 rfl rfl ?_
        refine g_iload_n (pc' := 56) C 4 dX9_review_55 rfl rfl rfl ?_
        refine g_if_neB (pc' := 59) (tgt := 63) C dX9_review_56 (by decide) rfl (fun c_56_6 => ?_) (fun c_56_6 => ?_)
        · refine g_aload_n (pc' := 64) C 1 dX9_review_63 rfl rfl rfl ?_
          refine g_get (pc' := 67) C fl_RX9_57_8 2 rfl rfl dX9_review_64 rfl ?_
          refine g_iload (pc' := 69) C 0 dX9_review_67 rfl rfl ?_
          refine g_ialdN (pc' := 70) C 0 (f := vf) rfl ((8 * r9) + e8) (by first | assumption | omega) (by decide) dX9_review_69 rfl ?_
          refine g_bipush (pc' := 72) (v := nI 64) C dX9_review_70 (by decide) rfl ?_
          refine g_icmp_neN (pc' := 75) (tgt := 80) C (by have q9 := ip_le (hip (8 * r9 + e8)); omega) (by first | assumption | omega) dX9_review_72 (by decide) rfl (fun c_72_7 => ?_) (fun c_72_7 => ?_)
          · refine g_iconst (pc' := 81) (v := nI 2) C dX9_review_80 (by decide) rfl ?_
            refine g_aload_n (pc' := 82) C 1 dX9_review_81 rfl rfl rfl ?_
            refine g_get (pc' := 85) C fl_RX9_57_8 2 rfl rfl dX9_review_82 rfl ?_
            refine g_iload (pc' := 87) C 0 dX9_review_85 rfl rfl ?_
            refine g_ialdN (pc' := 88) C 0 (f := vf) rfl ((8 * r9) + e8) (by first | assumption | omega) (by decide) dX9_review_87 rfl ?_
            refine g_imul (pc' := 89) (v := nI (2 * (vf ((8 * r9) + e8)))) C dX9_review_88 (pk_mul _ _) rfl ?_
            refine g_val (y := nI (rvI gw (vf (8 * r9 + e8)))) (by rw [c_56_6]; exact congrArg nI (rvI_2 c_72_7 (hip _))) ?_
            refine g_iastN (pc' := 90) (ws' := [(uf, .inl (κ.2 0, 24, .inl (nA (va_up vf ((8 * r9) + e8) (rvI gw (vf (8 * r9 + e8))))))), (ug, .inl (κ.2 0, 24, .inl (nA df))), (u0, .inr (8, [.int (nI 0), .int (nI n), .ref u1, .ref u2, .int (nI ds), .ref u3, .int (nI mc), .ref u4, .ref u5, .ref u6, .ref u7, .ref u8, .int (nI len), .ref u9, .int (nI ba), .int (nI sm), .ref ua, .ref ub, .ref uc, .ref ud, .ref ue, .int (nI dy), .ref uf, .ref ug])), (u4, .inl (κ.2 1, 8, .inl (zA th)))]) C 0 rfl ((8 * r9) + e8) (by first | assumption | omega) (by decide) rfl dX9_review_89 rfl ?_
            refine g_aload_n (pc' := 91) C 1 dX9_review_90 rfl rfl rfl ?_
            refine g_get (pc' := 94) C fl_RX9_60_8 2 rfl rfl dX9_review_91 rfl ?_
            refine g_iload (pc' := 96) C 0 dX9_review_94 rfl rfl ?_
            refine g_aload_n (pc' := 97) C 1 dX9_review_96 rfl rfl rfl ?_
            refine g_get (pc' := 100) C fl_RX9_130_8 2 rfl rfl dX9_review_97 rfl ?_
            refine g_aload_n (pc' := 101) C 1 dX9_review_100 rfl rfl rfl ?_
            refine g_get (pc' := 104) C fl_RX9_57_8 2 rfl rfl dX9_review_101 rfl ?_
            refine g_iload (pc' := 106) C 0 dX9_review_104 rfl rfl ?_
            refine g_ialdN (pc' := 107) C 0 (f := (va_up vf ((8 * r9) + e8) (rvI gw (vf (8 * r9 + e8))))) rfl ((8 * r9) + e8) (by first | assumption | omega) (by decide) dX9_review_106 rfl ?_
            refine g_val (y := nI (rvI gw (vf (8 * r9 + e8)))) (congrArg nI (va_up_self _ _ _)) ?_
            refine g_iadd (pc' := 108) (v := nI (dy + (rvI gw (vf (8 * r9 + e8))))) C dX9_review_107 (nI_add _ _) rfl ?_
            refine g_iastN (pc' := 109) (ws' := [(uf, .inl (κ.2 0, 24, .inl (nA (va_up vf ((8 * r9) + e8) (rvI gw (vf (8 * r9 + e8))))))), (ug, .inl (κ.2 0, 24, .inl (nA (va_up df ((8 * r9) + e8) (dy + (rvI gw (vf (8 * r9 + e8)))))))), (u0, .inr (8, [.int (nI 0), .int (nI n), .ref u1, .ref u2, .int (nI ds), .ref u3, .int (nI mc), .ref u4, .ref u5, .ref u6, .ref u7, .ref u8, .int (nI len), .ref u9, .int (nI ba), .int (nI sm), .ref ua, .ref ub, .ref uc, .ref ud, .ref ue, .int (nI dy), .ref uf, .ref ug])), (u4, .inl (κ.2 1, 8, .inl (zA th)))]) C 1 rfl ((8 * r9) + e8) (by first | assumption | omega) (by decide) rfl dX9_review_108 rfl ?_
            refine g_aload_n (pc' := 110) C 1 dX9_review_109 rfl rfl rfl ?_
            refine g_get (pc' := 113) C fl_RX9_57_8 2 rfl rfl dX9_review_110 rfl ?_
            refine g_iload (pc' := 115) C 0 dX9_review_113 rfl rfl ?_
            refine g_ialdN (pc' := 116) C 0 (f := (va_up vf ((8 * r9) + e8) (rvI gw (vf (8 * r9 + e8))))) rfl ((8 * r9) + e8) (by first | assumption | omega) (by decide) dX9_review_115 rfl ?_
            refine g_val (y := nI (rvI gw (vf (8 * r9 + e8)))) (congrArg nI (va_up_self _ _ _)) ?_
            refine g_selM (ws' := [(u0, .inr (8, [.int (nI 0), .int (nI n), .ref u1, .ref u2, .int (nI ds), .ref u3, .int (nI mc), .ref u4, .ref u5, .ref u6, .ref u7, .ref u8, .int (nI len), .ref u9, .int (nI ba), .int (nI sm), .ref ua, .ref ub, .ref uc, .ref ud, .ref ue, .int (nI dy), .ref uf, .ref ug])), (u4, .inl (κ.2 1, 8, .inl (zA th))), (uf, .inl (κ.2 0, 24, .inl (nA (va_up vf ((8 * r9) + e8) (rvI gw (vf (8 * r9 + e8))))))), (ug, .inl (κ.2 0, 24, .inl (nA (va_up df ((8 * r9) + e8) (dy + (rvI gw (vf (8 * r9 + e8))))))))]) [2, 3, 0, 1] rfl rfl ?_
            have hc9 : d_review (nI r9) (nI e8) th vf df dy = 0 := by rw [d_review, if_neg (by rw [z0]; decide), if_neg (by rw [z1]; decide), n9_nI (show r9 < 2147483648 by omega), n9_nI (show e8 < 2147483648 by omega), if_pos (by omega)]
            exact g_retMi C hAe rfl rfl (Nat.le_of_ble_eq_true rfl) (Nat.le_of_ble_eq_true rfl) (⟨by rw [hc9] <;> (try simp only [n9_nI (show r9 < 2147483648 by omega), n9_nI (show e8 < 2147483648 by omega)]) <;> rfl, by rw [hc9] <;> (try simp only [n9_nI (show r9 < 2147483648 by omega), n9_nI (show e8 < 2147483648 by omega)]) <;> rfl⟩) dX9_review_116
          · refine g_bipush (pc' := 77) (v := nI 64) C dX9_review_75 (by decide) rfl ?_
            refine g_goto (tgt := 89) C dX9_review_77 (by decide) ?_
            refine g_val (y := nI (rvI gw (vf (8 * r9 + e8)))) (by rw [c_56_6]; exact congrArg nI (rvI_64 c_72_7)) ?_
            refine g_iastN (pc' := 90) (ws' := [(uf, .inl (κ.2 0, 24, .inl (nA (va_up vf ((8 * r9) + e8) (rvI gw (vf (8 * r9 + e8))))))), (ug, .inl (κ.2 0, 24, .inl (nA df))), (u0, .inr (8, [.int (nI 0), .int (nI n), .ref u1, .ref u2, .int (nI ds), .ref u3, .int (nI mc), .ref u4, .ref u5, .ref u6, .ref u7, .ref u8, .int (nI len), .ref u9, .int (nI ba), .int (nI sm), .ref ua, .ref ub, .ref uc, .ref ud, .ref ue, .int (nI dy), .ref uf, .ref ug])), (u4, .inl (κ.2 1, 8, .inl (zA th)))]) C 0 rfl ((8 * r9) + e8) (by first | assumption | omega) (by decide) rfl dX9_review_89 rfl ?_
            refine g_aload_n (pc' := 91) C 1 dX9_review_90 rfl rfl rfl ?_
            refine g_get (pc' := 94) C fl_RX9_60_8 2 rfl rfl dX9_review_91 rfl ?_
            refine g_iload (pc' := 96) C 0 dX9_review_94 rfl rfl ?_
            refine g_aload_n (pc' := 97) C 1 dX9_review_96 rfl rfl rfl ?_
            refine g_get (pc' := 100) C fl_RX9_130_8 2 rfl rfl dX9_review_97 rfl ?_
            refine g_aload_n (pc' := 101) C 1 dX9_review_100 rfl rfl rfl ?_
            refine g_get (pc' := 104) C fl_RX9_57_8 2 rfl rfl dX9_review_101 rfl ?_
            refine g_iload (pc' := 106) C 0 dX9_review_104 rfl rfl ?_
            refine g_ialdN (pc' := 107) C 0 (f := (va_up vf ((8 * r9) + e8) (rvI gw (vf (8 * r9 + e8))))) rfl ((8 * r9) + e8) (by first | assumption | omega) (by decide) dX9_review_106 rfl ?_
            refine g_val (y := nI (rvI gw (vf (8 * r9 + e8)))) (congrArg nI (va_up_self _ _ _)) ?_
            refine g_iadd (pc' := 108) (v := nI (dy + (rvI gw (vf (8 * r9 + e8))))) C dX9_review_107 (nI_add _ _) rfl ?_
            refine g_iastN (pc' := 109) (ws' := [(uf, .inl (κ.2 0, 24, .inl (nA (va_up vf ((8 * r9) + e8) (rvI gw (vf (8 * r9 + e8))))))), (ug, .inl (κ.2 0, 24, .inl (nA (va_up df ((8 * r9) + e8) (dy + (rvI gw (vf (8 * r9 + e8)))))))), (u0, .inr (8, [.int (nI 0), .int (nI n), .ref u1, .ref u2, .int (nI ds), .ref u3, .int (nI mc), .ref u4, .ref u5, .ref u6, .ref u7, .ref u8, .int (nI len), .ref u9, .int (nI ba), .int (nI sm), .ref ua, .ref ub, .ref uc, .ref ud, .ref ue, .int (nI dy), .ref uf, .ref ug])), (u4, .inl (κ.2 1, 8, .inl (zA th)))]) C 1 rfl ((8 * r9) + e8) (by first | assumption | omega) (by decide) rfl dX9_review_108 rfl ?_
            refine g_aload_n (pc' := 110) C 1 dX9_review_109 rfl rfl rfl ?_
            refine g_get (pc' := 113) C fl_RX9_57_8 2 rfl rfl dX9_review_110 rfl ?_
            refine g_iload (pc' := 115) C 0 dX9_review_113 rfl rfl ?_
            refine g_ialdN (pc' := 116) C 0 (f := (va_up vf ((8 * r9) + e8) (rvI gw (vf (8 * r9 + e8))))) rfl ((8 * r9) + e8) (by first | assumption | omega) (by decide) dX9_review_115 rfl ?_
            refine g_val (y := nI (rvI gw (vf (8 * r9 + e8)))) (congrArg nI (va_up_self _ _ _)) ?_
            refine g_selM (ws' := [(u0, .inr (8, [.int (nI 0), .int (nI n), .ref u1, .ref u2, .int (nI ds), .ref u3, .int (nI mc), .ref u4, .ref u5, .ref u6, .ref u7, .ref u8, .int (nI len), .ref u9, .int (nI ba), .int (nI sm), .ref ua, .ref ub, .ref uc, .ref ud, .ref ue, .int (nI dy), .ref uf, .ref ug])), (u4, .inl (κ.2 1, 8, .inl (zA th))), (uf, .inl (κ.2 0, 24, .inl (nA (va_up vf ((8 * r9) + e8) (rvI gw (vf (8 * r9 + e8))))))), (ug, .inl (κ.2 0, 24, .inl (nA (va_up df ((8 * r9) + e8) (dy + (rvI gw (vf (8 * r9 + e8))))))))]) [2, 3, 0, 1] rfl rfl ?_
            have hc9 : d_review (nI r9) (nI e8) th vf df dy = 0 := by rw [d_review, if_neg (by rw [z0]; decide), if_neg (by rw [z1]; decide), n9_nI (show r9 < 2147483648 by omega), n9_nI (show e8 < 2147483648 by omega), if_pos (by omega)]
            exact g_retMi C hAe rfl rfl (Nat.le_of_ble_eq_true rfl) (Nat.le_of_ble_eq_true rfl) (⟨by rw [hc9] <;> (try simp only [n9_nI (show r9 < 2147483648 by omega), n9_nI (show e8 < 2147483648 by omega)]) <;> rfl, by rw [hc9] <;> (try simp only [n9_nI (show r9 < 2147483648 by omega), n9_nI (show e8 < 2147483648 by omega)]) <;> rfl⟩) dX9_review_116
        · refine g_iconst (pc' := 60) (v := nI 1) C dX9_review_59 (by decide) rfl ?_
          refine g_goto (tgt := 89) C dX9_review_60 (by decide) ?_
          refine g_val (y := nI (rvI gw (vf (8 * r9 + e8)))) (by rw [c_56_6]; rfl) ?_
          refine g_iastN (pc' := 90) (ws' := [(uf, .inl (κ.2 0, 24, .inl (nA (va_up vf ((8 * r9) + e8) (rvI gw (vf (8 * r9 + e8))))))), (ug, .inl (κ.2 0, 24, .inl (nA df))), (u0, .inr (8, [.int (nI 0), .int (nI n), .ref u1, .ref u2, .int (nI ds), .ref u3, .int (nI mc), .ref u4, .ref u5, .ref u6, .ref u7, .ref u8, .int (nI len), .ref u9, .int (nI ba), .int (nI sm), .ref ua, .ref ub, .ref uc, .ref ud, .ref ue, .int (nI dy), .ref uf, .ref ug])), (u4, .inl (κ.2 1, 8, .inl (zA th)))]) C 0 rfl ((8 * r9) + e8) (by first | assumption | omega) (by decide) rfl dX9_review_89 rfl ?_
          refine g_aload_n (pc' := 91) C 1 dX9_review_90 rfl rfl rfl ?_
          refine g_get (pc' := 94) C fl_RX9_60_8 2 rfl rfl dX9_review_91 rfl ?_
          refine g_iload (pc' := 96) C 0 dX9_review_94 rfl rfl ?_
          refine g_aload_n (pc' := 97) C 1 dX9_review_96 rfl rfl rfl ?_
          refine g_get (pc' := 100) C fl_RX9_130_8 2 rfl rfl dX9_review_97 rfl ?_
          refine g_aload_n (pc' := 101) C 1 dX9_review_100 rfl rfl rfl ?_
          refine g_get (pc' := 104) C fl_RX9_57_8 2 rfl rfl dX9_review_101 rfl ?_
          refine g_iload (pc' := 106) C 0 dX9_review_104 rfl rfl ?_
          refine g_ialdN (pc' := 107) C 0 (f := (va_up vf ((8 * r9) + e8) (rvI gw (vf (8 * r9 + e8))))) rfl ((8 * r9) + e8) (by first | assumption | omega) (by decide) dX9_review_106 rfl ?_
          refine g_val (y := nI (rvI gw (vf (8 * r9 + e8)))) (congrArg nI (va_up_self _ _ _)) ?_
          refine g_iadd (pc' := 108) (v := nI (dy + (rvI gw (vf (8 * r9 + e8))))) C dX9_review_107 (nI_add _ _) rfl ?_
          refine g_iastN (pc' := 109) (ws' := [(uf, .inl (κ.2 0, 24, .inl (nA (va_up vf ((8 * r9) + e8) (rvI gw (vf (8 * r9 + e8))))))), (ug, .inl (κ.2 0, 24, .inl (nA (va_up df ((8 * r9) + e8) (dy + (rvI gw (vf (8 * r9 + e8)))))))), (u0, .inr (8, [.int (nI 0), .int (nI n), .ref u1, .ref u2, .int (nI ds), .ref u3, .int (nI mc), .ref u4, .ref u5, .ref u6, .ref u7, .ref u8, .int (nI len), .ref u9, .int (nI ba), .int (nI sm), .ref ua, .ref ub, .ref uc, .ref ud, .ref ue, .int (nI dy), .ref uf, .ref ug])), (u4, .inl (κ.2 1, 8, .inl (zA th)))]) C 1 rfl ((8 * r9) + e8) (by first | assumption | omega) (by decide) rfl dX9_review_108 rfl ?_
          refine g_aload_n (pc' := 110) C 1 dX9_review_109 rfl rfl rfl ?_
          refine g_get (pc' := 113) C fl_RX9_57_8 2 rfl rfl dX9_review_110 rfl ?_
          refine g_iload (pc' := 115) C 0 dX9_review_113 rfl rfl ?_
          refine g_ialdN (pc' := 116) C 0 (f := (va_up vf ((8 * r9) + e8) (rvI gw (vf (8 * r9 + e8))))) rfl ((8 * r9) + e8) (by first | assumption | omega) (by decide) dX9_review_115 rfl ?_
          refine g_val (y := nI (rvI gw (vf (8 * r9 + e8)))) (congrArg nI (va_up_self _ _ _)) ?_
          refine g_selM (ws' := [(u0, .inr (8, [.int (nI 0), .int (nI n), .ref u1, .ref u2, .int (nI ds), .ref u3, .int (nI mc), .ref u4, .ref u5, .ref u6, .ref u7, .ref u8, .int (nI len), .ref u9, .int (nI ba), .int (nI sm), .ref ua, .ref ub, .ref uc, .ref ud, .ref ue, .int (nI dy), .ref uf, .ref ug])), (u4, .inl (κ.2 1, 8, .inl (zA th))), (uf, .inl (κ.2 0, 24, .inl (nA (va_up vf ((8 * r9) + e8) (rvI gw (vf (8 * r9 + e8))))))), (ug, .inl (κ.2 0, 24, .inl (nA (va_up df ((8 * r9) + e8) (dy + (rvI gw (vf (8 * r9 + e8))))))))]) [2, 3, 0, 1] rfl rfl ?_
          have hc9 : d_review (nI r9) (nI e8) th vf df dy = 0 := by rw [d_review, if_neg (by rw [z0]; decide), if_neg (by rw [z1]; decide), n9_nI (show r9 < 2147483648 by omega), n9_nI (show e8 < 2147483648 by omega), if_pos (by omega)]
          exact g_retMi C hAe rfl rfl (Nat.le_of_ble_eq_true rfl) (Nat.le_of_ble_eq_true rfl) (⟨by rw [hc9] <;> (try simp only [n9_nI (show r9 < 2147483648 by omega), n9_nI (show e8 < 2147483648 by omega)]) <;> rfl, by rw [hc9] <;> (try simp only [n9_nI (show r9 < 2147483648 by omega), n9_nI (show e8 < 2147483648 by omega)]) <;> rfl⟩) dX9_review_116
      · refine g_aload_n (pc' := 44) C 1 dX9_review_43 rfl rfl rfl ?_
        refine g_iconst (pc' := 45) (v := nI 3) C dX9_review_44 (by decide) rfl ?_
        refine g_callMi (pc' := 48) (wr := [(uf, .inl (κ.2 0, 24, .inl (nA vf))), (ug, .inl (κ.2 0, 24, .inl (nA df))), (u4, .inl (κ.2 1, 8, .inl (zA th)))]) C hA lk_RX9_127 (kX9_fails l κ u0 u1 u2 u3 u4 u5 u6 u7 u8 u9 ua ub uc ud ue uf ug 0 n ds mc len ba sm dy 3) 2 rfl rfl [2] [0, 1, 3] rfl rfl ⟨rfl, rfl, by decide⟩ rfl (Nat.le_of_ble_eq_true rfl) ⟨Nat.le_of_ble_eq_true rfl, Nat.le_of_ble_eq_true rfl⟩ ⟨Nat.le_of_ble_eq_true rfl, Nat.le_of_ble_eq_true rfl⟩ rfl dX9_review_45 rfl (fun r_45_8 w_45_8 h_45_8 => ?_)
        obtain ⟨rfl, rfl⟩ : r_45_8 = nI 0 ∧ w_45_8 = [(u0, .inr (8, [.int (nI 3), .int (nI n), .ref u1, .ref u2, .int (nI ds), .ref u3, .int (nI mc), .ref u4, .ref u5, .ref u6, .ref u7, .ref u8, .int (nI len), .ref u9, .int (nI ba), .int (nI sm), .ref ua, .ref ub, .ref uc, .ref ud, .ref ue, .int (nI dy), .ref uf, .ref ug]))] := h_45_8
        show G p l e (rmv 3 0 0) s m ([.ref u0, .int (nI r9), .int (nI e8), .int (b2i gw)] : List Value).toArray below meth c κ 5 (JM A s) [(uf, .inl (κ.2 0, 24, .inl (nA vf))), (ug, .inl (κ.2 0, 24, .inl (nA df))), (u4, .inl (κ.2 1, 8, .inl (zA th))), (u0, .inr (8, [.int (nI 3), .int (nI n), .ref u1, .ref u2, .int (nI ds), .ref u3, .int (nI mc), .ref u4, .ref u5, .ref u6, .ref u7, .ref u8, .int (nI len), .ref u9, .int (nI ba), .int (nI sm), .ref ua, .ref ub, .ref uc, .ref ud, .ref ue, .int (nI dy), .ref uf, .ref ug]))] 0 0 (MQ below (QMi κ [(u0, .inr (8, [.int (nI t9), .int (nI n), .ref u1, .ref u2, .int (nI ds), .ref u3, .int (nI mc), .ref u4, .ref u5, .ref u6, .ref u7, .ref u8, .int (nI len), .ref u9, .int (nI ba), .int (nI sm), .ref ua, .ref ub, .ref uc, .ref ud, .ref ue, .int (nI dy), .ref uf, .ref ug])), (u4, .inl (κ.2 1, 8, .inl (zA th))), (uf, .inl (κ.2 0, 24, .inl (nA vf))), (ug, .inl (κ.2 0, 24, .inl (nA df)))] s.heap.size (fun (vr_ : Int32) (vw_ : va_W) => vr_ = nI (if d_review (nI r9) (nI e8) th vf df dy = 0 then rvI gw (vf (8 * n9 (nI r9) + n9 (nI e8))) else 0) ∧ vw_ = [(u0, .inr (8, [.int (nI (d_review (nI r9) (nI e8) th vf df dy)), .int (nI n), .ref u1, .ref u2, .int (nI ds), .ref u3, .int (nI mc), .ref u4, .ref u5, .ref u6, .ref u7, .ref u8, .int (nI len), .ref u9, .int (nI ba), .int (nI sm), .ref ua, .ref ub, .ref uc, .ref ud, .ref ue, .int (nI dy), .ref uf, .ref ug])), (u4, .inl (κ.2 1, 8, .inl (zA th))), (uf, .inl (κ.2 0, 24, .inl (nA (if d_review (nI r9) (nI e8) th vf df dy = 0 then va_up vf (8 * n9 (nI r9) + n9 (nI e8)) (rvI gw (vf (8 * n9 (nI r9) + n9 (nI e8)))) else vf)))), (ug, .inl (κ.2 0, 24, .inl (nA (if d_review (nI r9) (nI e8) th vf df dy = 0 then va_up df (8 * n9 (nI r9) + n9 (nI e8)) (dy + rvI gw (vf (8 * n9 (nI r9) + n9 (nI e8)))) else df))))])) ([.ref u0, .int (nI r9), .int (nI e8), .int (b2i gw)] : List Value).toArray s 0 0 A) 48 [(4, .int (nI ((8 * r9) + e8))), (0, .ref u0), (1, .int (nI r9)), (2, .int (nI e8)), (3, .int (b2i gw))] [.int (nI 0)]
        refine g_selM (ws' := [(u0, .inr (8, [.int (nI 3), .int (nI n), .ref u1, .ref u2, .int (nI ds), .ref u3, .int (nI mc), .ref u4, .ref u5, .ref u6, .ref u7, .ref u8, .int (nI len), .ref u9, .int (nI ba), .int (nI sm), .ref ua, .ref ub, .ref uc, .ref ud, .ref ue, .int (nI dy), .ref uf, .ref ug])), (u4, .inl (κ.2 1, 8, .inl (zA th))), (uf, .inl (κ.2 0, 24, .inl (nA vf))), (ug, .inl (κ.2 0, 24, .inl (nA df)))]) [3, 2, 0, 1] rfl rfl ?_
        have hc9 : d_review (nI r9) (nI e8) th vf df dy = 3 := by rw [d_review, if_neg (by rw [z0]; decide), if_neg (by rw [z1]; decide), n9_nI (show r9 < 2147483648 by omega), n9_nI (show e8 < 2147483648 by omega), if_neg (by omega)]
        exact g_retMi C hAe rfl rfl (Nat.le_of_ble_eq_true rfl) (Nat.le_of_ble_eq_true rfl) (⟨by rw [hc9] <;> (try simp only [n9_nI (show r9 < 2147483648 by omega), n9_nI (show e8 < 2147483648 by omega)]) <;> rfl, by rw [hc9] <;> (try simp only [n9_nI (show r9 < 2147483648 by omega), n9_nI (show e8 < 2147483648 by omega)]) <;> rfl⟩) dX9_review_48
  · refine g_iconst (pc' := 10) (v := nI 0) C dX9_review_9 (by decide) rfl ?_
    refine g_selM (ws' := [(u0, .inr (8, [.int (nI (c_knows p0 p1 th)), .int (nI n), .ref u1, .ref u2, .int (nI ds), .ref u3, .int (nI mc), .ref u4, .ref u5, .ref u6, .ref u7, .ref u8, .int (nI len), .ref u9, .int (nI ba), .int (nI sm), .ref ua, .ref ub, .ref uc, .ref ud, .ref ue, .int (nI dy), .ref uf, .ref ug])), (u4, .inl (κ.2 1, 8, .inl (zA th))), (uf, .inl (κ.2 0, 24, .inl (nA vf))), (ug, .inl (κ.2 0, 24, .inl (nA df)))]) [2, 3, 0, 1] rfl rfl ?_
    have hc9 := d_review_no (vf := vf) (df := df) (dy := dy) c_6_2
    have hn9 : ¬ c_knows p0 p1 th = 0 := by omega
    exact g_retMi C hAe rfl rfl (Nat.le_of_ble_eq_true rfl) (Nat.le_of_ble_eq_true rfl) (⟨by rw [hc9, if_neg hn9], by rw [hc9, if_neg hn9, if_neg hn9]⟩) dX9_review_10

set_option maxHeartbeats 4000000 in
set_option maxRecDepth 100000 in
theorem kX9_knows (l : Launch) (κ : KK) (u0 : Nat) (u1 : Nat) (u2 : Nat) (u3 : Nat) (u4 : Nat) (u5 : Nat) (u6 : Nat) (u7 : Nat) (u8 : Nat) (u9 : Nat) (ua : Nat) (ub : Nat) (uc : Nat) (ud : Nat) (ue : Nat) (uf : Nat) (ug : Nat) (t9 : Nat) (n : Nat) (ds : Nat) (mc : Nat) (len : Nat) (ba : Nat) (sm : Nat) (dy : Nat) (th : Nat → Bool) (vf : Nat → Nat) (p0 : Int32) (p1 : Int32) (hm : mc ≤ 8) (hth : ∀ e, th e = true → e < mc) (hvf : ∀ j, vf j ≤ 64) : CMi l yX9_knows cX9_knows 3 (some .boolean) 3 0 0 κ [.ref u0, .int p0, .int p1] [(u0, .inr (8, [.int (nI t9), .int (nI n), .ref u1, .ref u2, .int (nI ds), .ref u3, .int (nI mc), .ref u4, .ref u5, .ref u6, .ref u7, .ref u8, .int (nI len), .ref u9, .int (nI ba), .int (nI sm), .ref ua, .ref ub, .ref uc, .ref ud, .ref ue, .int (nI dy), .ref uf, .ref ug])), (u4, .inl (κ.2 1, 8, .inl (zA th))), (uf, .inl (κ.2 0, 24, .inl (nA vf)))] (fun (vr_ : Int32) (vw_ : va_W) => vr_ = b2i (decide (c_knows p0 p1 th = 0) && decide (8 ≤ vf (8 * n9 p0 + n9 p1))) ∧ vw_ = [(u0, .inr (8, [.int (nI (c_knows p0 p1 th)), .int (nI n), .ref u1, .ref u2, .int (nI ds), .ref u3, .int (nI mc), .ref u4, .ref u5, .ref u6, .ref u7, .ref u8, .int (nI len), .ref u9, .int (nI ba), .int (nI sm), .ref ua, .ref ub, .ref uc, .ref ud, .ref ue, .int (nI dy), .ref uf, .ref ug])), (u4, .inl (κ.2 1, 8, .inl (zA th))), (uf, .inl (κ.2 0, 24, .inl (nA vf)))]) := by
  refine cmi_of RX9 rfl (by decide) (Nat.le_of_ble_eq_true rfl) ?_
  intro p e s m below meth c A C hAe hA hini
  refine g_lv (lv' := [(0, .ref u0), (1, .int p0), (2, .int p1)]) [0, 1, 2] rfl ?_
  refine g_aload_n (pc' := 1) C 0 dX9_knows_0 rfl rfl rfl ?_
  refine g_iload_n (pc' := 2) C 1 dX9_knows_1 rfl rfl rfl ?_
  refine g_iload_n (pc' := 3) C 2 dX9_knows_2 rfl rfl rfl ?_
  refine g_callMi (pc' := 6) (wr := [(uf, .inl (κ.2 0, 24, .inl (nA vf)))]) C hA lk_RX9_124 (kX9_barsCard l κ u0 u1 u2 u3 u4 u5 u6 u7 u8 u9 ua ub uc ud ue uf ug t9 n ds mc len ba sm dy th p0 p1 (by first | assumption | omega) (by first | assumption | omega)) 0 rfl rfl [0, 1] [2] rfl rfl ⟨rfl, rfl, by decide⟩ rfl (Nat.le_of_ble_eq_true rfl) ⟨Nat.le_of_ble_eq_true rfl, Nat.le_of_ble_eq_true rfl⟩ ⟨Nat.le_of_ble_eq_true rfl, Nat.le_of_ble_eq_true rfl⟩ rfl dX9_knows_3 rfl (fun r_3_1 w_3_1 h_3_1 => ?_)
  obtain ⟨rfl, rfl⟩ : r_3_1 = nI (c_knows p0 p1 th) ∧ w_3_1 = [(u0, .inr (8, [.int (nI (c_knows p0 p1 th)), .int (nI n), .ref u1, .ref u2, .int (nI ds), .ref u3, .int (nI mc), .ref u4, .ref u5, .ref u6, .ref u7, .ref u8, .int (nI len), .ref u9, .int (nI ba), .int (nI sm), .ref ua, .ref ub, .ref uc, .ref ud, .ref ue, .int (nI dy), .ref uf, .ref ug])), (u4, .inl (κ.2 1, 8, .inl (zA th)))] := h_3_1
  show G p l e (rmv 3 0 0) s m ([.ref u0, .int p0, .int p1] : List Value).toArray below meth c κ 3 (JM A s) [(uf, .inl (κ.2 0, 24, .inl (nA vf))), (u0, .inr (8, [.int (nI (c_knows p0 p1 th)), .int (nI n), .ref u1, .ref u2, .int (nI ds), .ref u3, .int (nI mc), .ref u4, .ref u5, .ref u6, .ref u7, .ref u8, .int (nI len), .ref u9, .int (nI ba), .int (nI sm), .ref ua, .ref ub, .ref uc, .ref ud, .ref ue, .int (nI dy), .ref uf, .ref ug])), (u4, .inl (κ.2 1, 8, .inl (zA th)))] 0 0 (MQ below (QMi κ [(u0, .inr (8, [.int (nI t9), .int (nI n), .ref u1, .ref u2, .int (nI ds), .ref u3, .int (nI mc), .ref u4, .ref u5, .ref u6, .ref u7, .ref u8, .int (nI len), .ref u9, .int (nI ba), .int (nI sm), .ref ua, .ref ub, .ref uc, .ref ud, .ref ue, .int (nI dy), .ref uf, .ref ug])), (u4, .inl (κ.2 1, 8, .inl (zA th))), (uf, .inl (κ.2 0, 24, .inl (nA vf)))] s.heap.size (fun (vr_ : Int32) (vw_ : va_W) => vr_ = b2i (decide (c_knows p0 p1 th = 0) && decide (8 ≤ vf (8 * n9 p0 + n9 p1))) ∧ vw_ = [(u0, .inr (8, [.int (nI (c_knows p0 p1 th)), .int (nI n), .ref u1, .ref u2, .int (nI ds), .ref u3, .int (nI mc), .ref u4, .ref u5, .ref u6, .ref u7, .ref u8, .int (nI len), .ref u9, .int (nI ba), .int (nI sm), .ref ua, .ref ub, .ref uc, .ref ud, .ref ue, .int (nI dy), .ref uf, .ref ug])), (u4, .inl (κ.2 1, 8, .inl (zA th))), (uf, .inl (κ.2 0, 24, .inl (nA vf)))])) ([.ref u0, .int p0, .int p1] : List Value).toArray s 0 0 A) 6 [(0, .ref u0), (1, .int p0), (2, .int p1)] [.int (nI (c_knows p0 p1 th))]
  refine g_if_neN (pc' := 9) (tgt := 29) C (Nat.lt_trans c_knows_lt (by decide)) dX9_knows_6 (by decide) rfl (fun c_6_2 => ?_) (fun c_6_2 => ?_)
  · refine g_iconst (pc' := 30) (v := nI 0) C dX9_knows_29 (by decide) rfl ?_
    refine g_selM (ws' := [(u0, .inr (8, [.int (nI (c_knows p0 p1 th)), .int (nI n), .ref u1, .ref u2, .int (nI ds), .ref u3, .int (nI mc), .ref u4, .ref u5, .ref u6, .ref u7, .ref u8, .int (nI len), .ref u9, .int (nI ba), .int (nI sm), .ref ua, .ref ub, .ref uc, .ref ud, .ref ue, .int (nI dy), .ref uf, .ref ug])), (u4, .inl (κ.2 1, 8, .inl (zA th))), (uf, .inl (κ.2 0, 24, .inl (nA vf)))]) [1, 2, 0] rfl rfl ?_
    have hn9 : ¬ c_knows p0 p1 th = 0 := c_6_2
    exact g_retMi C hAe rfl rfl (Nat.le_of_ble_eq_true rfl) (Nat.le_of_ble_eq_true rfl) (⟨by simp [hn9] <;> rfl, rfl⟩) dX9_knows_30
  · have zc := c_6_2
    obtain ⟨z0, z1⟩ := c_knows_0 (Nat.le_of_eq (by omega : c_knows p0 p1 th = 0))
    obtain ⟨r9, -, hr9, rfl⟩ := inZ_w z0 (by decide)
    obtain ⟨e8, he8, rfl, te8⟩ := isE_w z1
    have zq : c_knows (nI r9) (nI e8) th = 0 := (by omega)
    refine g_w (ws' := [(uf, .inl (κ.2 0, 24, .inl (nA vf))), (u0, .inr (8, [.int (nI 0), .int (nI n), .ref u1, .ref u2, .int (nI ds), .ref u3, .int (nI mc), .ref u4, .ref u5, .ref u6, .ref u7, .ref u8, .int (nI len), .ref u9, .int (nI ba), .int (nI sm), .ref ua, .ref ub, .ref uc, .ref ud, .ref ue, .int (nI dy), .ref uf, .ref ug])), (u4, .inl (κ.2 1, 8, .inl (zA th)))]) (by rw [zq]) ?_
    refine g_aload_n (pc' := 10) C 0 dX9_knows_9 rfl rfl rfl ?_
    refine g_get (pc' := 13) C fl_RX9_57_8 1 rfl rfl dX9_knows_10 rfl ?_
    refine g_bipush (pc' := 15) (v := nI 8) C dX9_knows_13 (by decide) rfl ?_
    refine g_iload_n (pc' := 16) C 1 dX9_knows_15 rfl rfl rfl ?_
    refine g_imul (pc' := 17) (v := nI (8 * r9)) C dX9_knows_16 (pk_mul _ _) rfl ?_
    refine g_iload_n (pc' := 18) C 2 dX9_knows_17 rfl rfl rfl ?_
    refine g_iadd (pc' := 19) (v := nI ((8 * r9) + e8)) C dX9_knows_18 (nI_add _ _) rfl ?_
    refine g_ialdN (pc' := 20) C 0 (f := vf) rfl ((8 * r9) + e8) (by first | assumption | omega) (by decide) dX9_knows_19 rfl ?_
    refine g_bipush (pc' := 22) (v := nI 8) C dX9_knows_20 (by decide) rfl ?_
    refine g_icmp_ltN (pc' := 25) (tgt := 29) C (by have q9 := hvf (8 * r9 + e8); omega) (by first | assumption | omega) dX9_knows_22 (by decide) rfl (fun c_22_3 => ?_) (fun c_22_3 => ?_)
    · refine g_iconst (pc' := 30) (v := nI 0) C dX9_knows_29 (by decide) rfl ?_
      refine g_selM (ws' := [(u0, .inr (8, [.int (nI 0), .int (nI n), .ref u1, .ref u2, .int (nI ds), .ref u3, .int (nI mc), .ref u4, .ref u5, .ref u6, .ref u7, .ref u8, .int (nI len), .ref u9, .int (nI ba), .int (nI sm), .ref ua, .ref ub, .ref uc, .ref ud, .ref ue, .int (nI dy), .ref uf, .ref ug])), (u4, .inl (κ.2 1, 8, .inl (zA th))), (uf, .inl (κ.2 0, 24, .inl (nA vf)))]) [1, 2, 0] rfl rfl ?_
      have hc9 : c_knows (nI r9) (nI e8) th = 0 := zq
      exact g_retMi C hAe rfl rfl (Nat.le_of_ble_eq_true rfl) (Nat.le_of_ble_eq_true rfl) (⟨by rw [hc9] <;> simp only [n9_nI (show r9 < 2147483648 by omega), n9_nI (show e8 < 2147483648 by omega)] <;> exact bF (by simp; omega), by rw [hc9]⟩) dX9_knows_30
    · refine g_iconst (pc' := 26) (v := nI 1) C dX9_knows_25 (by decide) rfl ?_
      refine g_goto (tgt := 30) C dX9_knows_26 (by decide) ?_
      refine g_selM (ws' := [(u0, .inr (8, [.int (nI 0), .int (nI n), .ref u1, .ref u2, .int (nI ds), .ref u3, .int (nI mc), .ref u4, .ref u5, .ref u6, .ref u7, .ref u8, .int (nI len), .ref u9, .int (nI ba), .int (nI sm), .ref ua, .ref ub, .ref uc, .ref ud, .ref ue, .int (nI dy), .ref uf, .ref ug])), (u4, .inl (κ.2 1, 8, .inl (zA th))), (uf, .inl (κ.2 0, 24, .inl (nA vf)))]) [1, 2, 0] rfl rfl ?_
      have hc9 : c_knows (nI r9) (nI e8) th = 0 := zq
      exact g_retMi C hAe rfl rfl (Nat.le_of_ble_eq_true rfl) (Nat.le_of_ble_eq_true rfl) (⟨by rw [hc9] <;> simp only [n9_nI (show r9 < 2147483648 by omega), n9_nI (show e8 < 2147483648 by omega)] <;> exact bT (by simp; omega), by rw [hc9]⟩) dX9_knows_30

set_option maxHeartbeats 4000000 in
set_option maxRecDepth 100000 in
theorem kX9_due (l : Launch) (κ : KK) (u0 : Nat) (u1 : Nat) (u2 : Nat) (u3 : Nat) (u4 : Nat) (u5 : Nat) (u6 : Nat) (u7 : Nat) (u8 : Nat) (u9 : Nat) (ua : Nat) (ub : Nat) (uc : Nat) (ud : Nat) (ue : Nat) (uf : Nat) (ug : Nat) (t9 : Nat) (n : Nat) (ds : Nat) (mc : Nat) (len : Nat) (ba : Nat) (sm : Nat) (dy : Nat) (vf : Nat → Nat) (df : Nat → Nat) (p0 : Int32) (hvf : ∀ j, vf j ≤ 64) (hdf : ∀ j, df j < 2 ^ 30) (hdy : dy < 2 ^ 30) : CMi l yX9_due cX9_due 6 (some .int) 2 0 0 κ [.ref u0, .int p0] [(u0, .inr (8, [.int (nI t9), .int (nI n), .ref u1, .ref u2, .int (nI ds), .ref u3, .int (nI mc), .ref u4, .ref u5, .ref u6, .ref u7, .ref u8, .int (nI len), .ref u9, .int (nI ba), .int (nI sm), .ref ua, .ref ub, .ref uc, .ref ud, .ref ue, .int (nI dy), .ref uf, .ref ug])), (uf, .inl (κ.2 0, 24, .inl (nA vf))), (ug, .inl (κ.2 0, 24, .inl (nA df)))] (fun (vr_ : Int32) (vw_ : va_W) => vr_ = nI (if c_reader p0 = 0 then cntB (fun e => decide (0 < vf (8 * n9 p0 + e)) && decide (df (8 * n9 p0 + e) ≤ dy)) 8 else 0) ∧ vw_ = [(u0, .inr (8, [.int (nI (c_reader p0)), .int (nI n), .ref u1, .ref u2, .int (nI ds), .ref u3, .int (nI mc), .ref u4, .ref u5, .ref u6, .ref u7, .ref u8, .int (nI len), .ref u9, .int (nI ba), .int (nI sm), .ref ua, .ref ub, .ref uc, .ref ud, .ref ue, .int (nI dy), .ref uf, .ref ug])), (uf, .inl (κ.2 0, 24, .inl (nA vf))), (ug, .inl (κ.2 0, 24, .inl (nA df)))]) := by
  refine cmi_of RX9 rfl (by decide) (Nat.le_of_ble_eq_true rfl) ?_
  intro p e s m below meth c A C hAe hA hini
  refine g_lv (lv' := [(0, .ref u0), (1, .int p0)]) [0, 1] rfl ?_
  refine g_iconst (pc' := 1) (v := nI 0) C dX9_due_0 (by decide) rfl ?_
  refine g_istore_n (pc' := 2) (lv' := [(2, .int (nI 0)), (0, .ref u0), (1, .int p0)]) C dX9_due_1 rfl (by decide) rfl rfl ?_
  refine g_aload_n (pc' := 3) C 1 dX9_due_2 rfl rfl rfl ?_
  refine g_iload_n (pc' := 4) C 2 dX9_due_3 rfl rfl rfl ?_
  refine g_callMi (pc' := 7) (wr := [(uf, .inl (κ.2 0, 24, .inl (nA vf))), (ug, .inl (κ.2 0, 24, .inl (nA df)))]) C hA lk_RX9_121 (kX9_isReader l κ u0 u1 u2 u3 u4 u5 u6 u7 u8 u9 ua ub uc ud ue uf ug t9 n ds mc len ba sm dy p0) 0 rfl rfl [0] [1, 2] rfl rfl ⟨rfl, rfl, by decide⟩ rfl (Nat.le_of_ble_eq_true rfl) ⟨Nat.le_of_ble_eq_true rfl, Nat.le_of_ble_eq_true rfl⟩ ⟨Nat.le_of_ble_eq_true rfl, Nat.le_of_ble_eq_true rfl⟩ rfl dX9_due_4 rfl (fun r_4_1 w_4_1 h_4_1 => ?_)
  obtain ⟨rfl, rfl⟩ : r_4_1 = b2i (inZ 0 2 p0) ∧ w_4_1 = [(u0, .inr (8, [.int (nI (c_reader p0)), .int (nI n), .ref u1, .ref u2, .int (nI ds), .ref u3, .int (nI mc), .ref u4, .ref u5, .ref u6, .ref u7, .ref u8, .int (nI len), .ref u9, .int (nI ba), .int (nI sm), .ref ua, .ref ub, .ref uc, .ref ud, .ref ue, .int (nI dy), .ref uf, .ref ug]))] := h_4_1
  show G p l e (rmv 2 0 0) s m ([.ref u0, .int p0] : List Value).toArray below meth c κ 6 (JM A s) [(uf, .inl (κ.2 0, 24, .inl (nA vf))), (ug, .inl (κ.2 0, 24, .inl (nA df))), (u0, .inr (8, [.int (nI (c_reader p0)), .int (nI n), .ref u1, .ref u2, .int (nI ds), .ref u3, .int (nI mc), .ref u4, .ref u5, .ref u6, .ref u7, .ref u8, .int (nI len), .ref u9, .int (nI ba), .int (nI sm), .ref ua, .ref ub, .ref uc, .ref ud, .ref ue, .int (nI dy), .ref uf, .ref ug]))] 0 0 (MQ below (QMi κ [(u0, .inr (8, [.int (nI t9), .int (nI n), .ref u1, .ref u2, .int (nI ds), .ref u3, .int (nI mc), .ref u4, .ref u5, .ref u6, .ref u7, .ref u8, .int (nI len), .ref u9, .int (nI ba), .int (nI sm), .ref ua, .ref ub, .ref uc, .ref ud, .ref ue, .int (nI dy), .ref uf, .ref ug])), (uf, .inl (κ.2 0, 24, .inl (nA vf))), (ug, .inl (κ.2 0, 24, .inl (nA df)))] s.heap.size (fun (vr_ : Int32) (vw_ : va_W) => vr_ = nI (if c_reader p0 = 0 then cntB (fun e => decide (0 < vf (8 * n9 p0 + e)) && decide (df (8 * n9 p0 + e) ≤ dy)) 8 else 0) ∧ vw_ = [(u0, .inr (8, [.int (nI (c_reader p0)), .int (nI n), .ref u1, .ref u2, .int (nI ds), .ref u3, .int (nI mc), .ref u4, .ref u5, .ref u6, .ref u7, .ref u8, .int (nI len), .ref u9, .int (nI ba), .int (nI sm), .ref ua, .ref ub, .ref uc, .ref ud, .ref ue, .int (nI dy), .ref uf, .ref ug])), (uf, .inl (κ.2 0, 24, .inl (nA vf))), (ug, .inl (κ.2 0, 24, .inl (nA df)))])) ([.ref u0, .int p0] : List Value).toArray s 0 0 A) 7 [(2, .int (nI 0)), (0, .ref u0), (1, .int p0)] [.int (b2i (inZ 0 2 p0))]
  rcases Bool.eq_false_or_eq_true (inZ 0 2 p0) with z0 | z0
  · have hc9 : c_reader p0 = 0 := by simp [c_reader, z0]
    refine g_val (y := b2i true) (by rw [z0]) ?_
    refine g_w (ws' := [(uf, .inl (κ.2 0, 24, .inl (nA vf))), (ug, .inl (κ.2 0, 24, .inl (nA df))), (u0, .inr (8, [.int (nI 0), .int (nI n), .ref u1, .ref u2, .int (nI ds), .ref u3, .int (nI mc), .ref u4, .ref u5, .ref u6, .ref u7, .ref u8, .int (nI len), .ref u9, .int (nI ba), .int (nI sm), .ref ua, .ref ub, .ref uc, .ref ud, .ref ue, .int (nI dy), .ref uf, .ref ug]))]) (by rw [hc9]) ?_
    obtain ⟨r9, -, hr9, rfl⟩ := inZ_w z0 (by decide)
    refine g_istore_n (pc' := 8) (lv' := [(3, .int (b2i true)), (2, .int (nI 0)), (0, .ref u0), (1, .int (nI r9))]) C dX9_due_7 rfl (by decide) rfl rfl ?_
    refine g_iconst (pc' := 9) (v := nI 0) C dX9_due_8 (by decide) rfl ?_
    refine g_istore (pc' := 11) (lv' := [(4, .int (nI 0)), (3, .int (b2i true)), (2, .int (nI 0)), (0, .ref u0), (1, .int (nI r9))]) C dX9_due_9 (by decide) rfl rfl ?_
    have lp_a : ∀ (fu_a : Nat) (i : Nat) (z : Nat), (i ≤ 8) → (z = cntB (fun e => decide (0 < vf (8 * r9 + e)) && decide (df (8 * r9 + e) ≤ dy)) i) → (8 - i) < fu_a → G p l e (rmv 2 0 0) s m ([.ref u0, .int (nI r9)] : List Value).toArray below meth c κ 6 (JM A s) [(u0, .inr (8, [.int (nI 0), .int (nI n), .ref u1, .ref u2, .int (nI ds), .ref u3, .int (nI mc), .ref u4, .ref u5, .ref u6, .ref u7, .ref u8, .int (nI len), .ref u9, .int (nI ba), .int (nI sm), .ref ua, .ref ub, .ref uc, .ref ud, .ref ue, .int (nI dy), .ref uf, .ref ug])), (uf, .inl (κ.2 0, 24, .inl (nA vf))), (ug, .inl (κ.2 0, 24, .inl (nA df)))] 0 0 (MQ below (QMi κ [(u0, .inr (8, [.int (nI t9), .int (nI n), .ref u1, .ref u2, .int (nI ds), .ref u3, .int (nI mc), .ref u4, .ref u5, .ref u6, .ref u7, .ref u8, .int (nI len), .ref u9, .int (nI ba), .int (nI sm), .ref ua, .ref ub, .ref uc, .ref ud, .ref ue, .int (nI dy), .ref uf, .ref ug])), (uf, .inl (κ.2 0, 24, .inl (nA vf))), (ug, .inl (κ.2 0, 24, .inl (nA df)))] s.heap.size (fun (vr_ : Int32) (vw_ : va_W) => vr_ = nI (if c_reader (nI r9) = 0 then cntB (fun e => decide (0 < vf (8 * n9 (nI r9) + e)) && decide (df (8 * n9 (nI r9) + e) ≤ dy)) 8 else 0) ∧ vw_ = [(u0, .inr (8, [.int (nI (c_reader (nI r9))), .int (nI n), .ref u1, .ref u2, .int (nI ds), .ref u3, .int (nI mc), .ref u4, .ref u5, .ref u6, .ref u7, .ref u8, .int (nI len), .ref u9, .int (nI ba), .int (nI sm), .ref ua, .ref ub, .ref uc, .ref ud, .ref ue, .int (nI dy), .ref uf, .ref ug])), (uf, .inl (κ.2 0, 24, .inl (nA vf))), (ug, .inl (κ.2 0, 24, .inl (nA df)))])) ([.ref u0, .int (nI r9)] : List Value).toArray s 0 0 A) 11 [(4, .int (nI i)), (2, .int (nI z)), (0, .ref u0), (1, .int (nI r9)), (3, .int (b2i true))] [] := by
      intro fu_a
      induction fu_a with
      | zero => intro i z hi hz hmu; exact absurd hmu (Nat.not_lt_zero _)
      | succ fu_a ih_a =>
        intro i z hi hz hmu_a
        refine g_iload (pc' := 13) C 0 dX9_due_11 rfl rfl ?_
        refine g_bipush (pc' := 15) (v := nI 8) C dX9_due_13 (by decide) rfl ?_
        refine g_icmp_geN (pc' := 18) (tgt := 69) C (by first | assumption | omega) (by first | assumption | omega) dX9_due_15 (by decide) rfl (fun c_15_2 => ?_) (fun c_15_2 => ?_)
        · refine g_iload_n (pc' := 70) C 1 dX9_due_69 rfl rfl rfl ?_
          exact g_retMi C hAe rfl rfl (Nat.le_of_ble_eq_true rfl) (Nat.le_of_ble_eq_true rfl) (⟨by rw [hc9] <;> (try simp only [n9_nI (show r9 < 2147483648 by omega), hz, show i = 8 by omega]) <;> rfl, by rw [hc9] <;> rfl⟩) dX9_due_70
        · refine g_iload_n (pc' := 19) C 4 dX9_due_18 rfl rfl rfl ?_
          refine g_if_eqB (pc' := 22) (tgt := 69) C dX9_due_19 (by decide) rfl (fun z => absurd z (by decide)) (fun _ => ?_)
          refine g_bipush (pc' := 24) (v := nI 8) C dX9_due_22 (by decide) rfl ?_
          refine g_iload_n (pc' := 25) C 3 dX9_due_24 rfl rfl rfl ?_
          refine g_imul (pc' := 26) (v := nI (8 * r9)) C dX9_due_25 (pk_mul _ _) rfl ?_
          refine g_iload (pc' := 28) C 0 dX9_due_26 rfl rfl ?_
          refine g_iadd (pc' := 29) (v := nI ((8 * r9) + i)) C dX9_due_28 (nI_add _ _) rfl ?_
          refine g_istore (pc' := 31) (lv' := [(5, .int (nI ((8 * r9) + i))), (4, .int (nI i)), (2, .int (nI z)), (0, .ref u0), (1, .int (nI r9)), (3, .int (b2i true))]) C dX9_due_29 (by decide) rfl rfl ?_
          refine g_iload_n (pc' := 32) C 2 dX9_due_31 rfl rfl rfl ?_
          refine g_aload_n (pc' := 33) C 3 dX9_due_32 rfl rfl rfl ?_
          refine g_get (pc' := 36) C fl_RX9_57_8 0 rfl rfl dX9_due_33 rfl ?_
          refine g_iload (pc' := 38) C 0 dX9_due_36 rfl rfl ?_
          refine g_ialdN (pc' := 39) C 1 (f := vf) rfl ((8 * r9) + i) (by first | assumption | omega) (by decide) dX9_due_38 rfl ?_
          refine g_if_leN (pc' := 42) (tgt := 60) C (by have q9 := hvf (8 * r9 + i); omega) dX9_due_39 (by decide) rfl (fun c_39_4 => ?_) (fun c_39_4 => ?_)
          · refine g_iconst (pc' := 61) (v := nI 0) C dX9_due_60 (by decide) rfl ?_
            refine g_iadd (pc' := 62) (v := nI (z + 0)) C dX9_due_61 (nI_add _ _) rfl ?_
            refine g_istore_n (pc' := 63) (lv' := [(2, .int (nI (z + 0))), (5, .int (nI ((8 * r9) + i))), (4, .int (nI i)), (0, .ref u0), (1, .int (nI r9)), (3, .int (b2i true))]) C dX9_due_62 rfl (by decide) rfl rfl ?_
            refine g_iinc (pc' := 66) (v := nI (i + 1)) (lv' := [(4, .int (nI (i + 1))), (2, .int (nI (z + 0))), (5, .int (nI ((8 * r9) + i))), (0, .ref u0), (1, .int (nI r9)), (3, .int (b2i true))]) C 2 dX9_due_63 rfl (iincN1 _) (by decide) rfl rfl ?_
            refine g_goto (tgt := 11) C dX9_due_66 (by decide) ?_
            refine g_lv (lv' := [(4, .int (nI (i + 1))), (2, .int (nI (z + 0))), (0, .ref u0), (1, .int (nI r9)), (3, .int (b2i true))]) [0, 1, 3, 4, 5] rfl ?_
            exact ih_a (i + 1) (z + 0) (by first | assumption | omega) (by rw [cntB_f (by simp; omega), hz] <;> omega) (by omega)
          · refine g_aload_n (pc' := 43) C 3 dX9_due_42 rfl rfl rfl ?_
            refine g_get (pc' := 46) C fl_RX9_60_8 0 rfl rfl dX9_due_43 rfl ?_
            refine g_iload (pc' := 48) C 0 dX9_due_46 rfl rfl ?_
            refine g_ialdN (pc' := 49) C 2 (f := df) rfl ((8 * r9) + i) (by first | assumption | omega) (by decide) dX9_due_48 rfl ?_
            refine g_aload_n (pc' := 50) C 3 dX9_due_49 rfl rfl rfl ?_
            refine g_get (pc' := 53) C fl_RX9_130_8 0 rfl rfl dX9_due_50 rfl ?_
            refine g_icmp_gtN (pc' := 56) (tgt := 60) C (by have q9 := hdf (8 * r9 + i); omega) (by first | assumption | omega) dX9_due_53 (by decide) rfl (fun c_53_5 => ?_) (fun c_53_5 => ?_)
            · refine g_iconst (pc' := 61) (v := nI 0) C dX9_due_60 (by decide) rfl ?_
              refine g_iadd (pc' := 62) (v := nI (z + 0)) C dX9_due_61 (nI_add _ _) rfl ?_
              refine g_istore_n (pc' := 63) (lv' := [(2, .int (nI (z + 0))), (5, .int (nI ((8 * r9) + i))), (4, .int (nI i)), (0, .ref u0), (1, .int (nI r9)), (3, .int (b2i true))]) C dX9_due_62 rfl (by decide) rfl rfl ?_
              refine g_iinc (pc' := 66) (v := nI (i + 1)) (lv' := [(4, .int (nI (i + 1))), (2, .int (nI (z + 0))), (5, .int (nI ((8 * r9) + i))), (0, .ref u0), (1, .int (nI r9)), (3, .int (b2i true))]) C 2 dX9_due_63 rfl (iincN1 _) (by decide) rfl rfl ?_
              refine g_goto (tgt := 11) C dX9_due_66 (by decide) ?_
              refine g_lv (lv' := [(4, .int (nI (i + 1))), (2, .int (nI (z + 0))), (0, .ref u0), (1, .int (nI r9)), (3, .int (b2i true))]) [0, 1, 3, 4, 5] rfl ?_
              exact ih_a (i + 1) (z + 0) (by first | assumption | omega) (by rw [cntB_f (by simp; omega), hz] <;> omega) (by omega)
            · refine g_iconst (pc' := 57) (v := nI 1) C dX9_due_56 (by decide) rfl ?_
              refine g_goto (tgt := 61) C dX9_due_57 (by decide) ?_
              refine g_iadd (pc' := 62) (v := nI (z + 1)) C dX9_due_61 (nI_add _ _) rfl ?_
              refine g_istore_n (pc' := 63) (lv' := [(2, .int (nI (z + 1))), (5, .int (nI ((8 * r9) + i))), (4, .int (nI i)), (0, .ref u0), (1, .int (nI r9)), (3, .int (b2i true))]) C dX9_due_62 rfl (by decide) rfl rfl ?_
              refine g_iinc (pc' := 66) (v := nI (i + 1)) (lv' := [(4, .int (nI (i + 1))), (2, .int (nI (z + 1))), (5, .int (nI ((8 * r9) + i))), (0, .ref u0), (1, .int (nI r9)), (3, .int (b2i true))]) C 2 dX9_due_63 rfl (iincN1 _) (by decide) rfl rfl ?_
              refine g_goto (tgt := 11) C dX9_due_66 (by decide) ?_
              refine g_lv (lv' := [(4, .int (nI (i + 1))), (2, .int (nI (z + 1))), (0, .ref u0), (1, .int (nI r9)), (3, .int (b2i true))]) [0, 1, 3, 4, 5] rfl ?_
              exact ih_a (i + 1) (z + 1) (by first | assumption | omega) (by rw [cntB_t (by simp; omega), hz] <;> omega) (by omega)
    refine g_selM (ws' := [(u0, .inr (8, [.int (nI 0), .int (nI n), .ref u1, .ref u2, .int (nI ds), .ref u3, .int (nI mc), .ref u4, .ref u5, .ref u6, .ref u7, .ref u8, .int (nI len), .ref u9, .int (nI ba), .int (nI sm), .ref ua, .ref ub, .ref uc, .ref ud, .ref ue, .int (nI dy), .ref uf, .ref ug])), (uf, .inl (κ.2 0, 24, .inl (nA vf))), (ug, .inl (κ.2 0, 24, .inl (nA df)))]) [2, 0, 1] rfl rfl ?_
    refine g_lv (lv' := [(4, .int (nI 0)), (2, .int (nI 0)), (0, .ref u0), (1, .int (nI r9)), (3, .int (b2i true))]) [0, 2, 3, 4, 1] rfl ?_
    exact lp_a 9 0 0 (Nat.zero_le _) rfl (by omega)
  · have hc9 : c_reader p0 = 1 := by simp [c_reader, z0]
    refine g_val (y := b2i false) (by rw [z0]) ?_
    refine g_w (ws' := [(uf, .inl (κ.2 0, 24, .inl (nA vf))), (ug, .inl (κ.2 0, 24, .inl (nA df))), (u0, .inr (8, [.int (nI 1), .int (nI n), .ref u1, .ref u2, .int (nI ds), .ref u3, .int (nI mc), .ref u4, .ref u5, .ref u6, .ref u7, .ref u8, .int (nI len), .ref u9, .int (nI ba), .int (nI sm), .ref ua, .ref ub, .ref uc, .ref ud, .ref ue, .int (nI dy), .ref uf, .ref ug]))]) (by rw [hc9]) ?_
    refine g_istore_n (pc' := 8) (lv' := [(3, .int (b2i false)), (2, .int (nI 0)), (0, .ref u0), (1, .int p0)]) C dX9_due_7 rfl (by decide) rfl rfl ?_
    refine g_iconst (pc' := 9) (v := nI 0) C dX9_due_8 (by decide) rfl ?_
    refine g_istore (pc' := 11) (lv' := [(4, .int (nI 0)), (3, .int (b2i false)), (2, .int (nI 0)), (0, .ref u0), (1, .int p0)]) C dX9_due_9 (by decide) rfl rfl ?_
    refine g_iload (pc' := 13) C 0 dX9_due_11 rfl rfl ?_
    refine g_bipush (pc' := 15) (v := nI 8) C dX9_due_13 (by decide) rfl ?_
    refine g_icmp_geN (pc' := 18) (tgt := 69) C (by first | assumption | omega) (by first | assumption | omega) dX9_due_15 (by decide) rfl (fun z => absurd z (by decide)) (fun _ => ?_)
    refine g_iload_n (pc' := 19) C 1 dX9_due_18 rfl rfl rfl ?_
    refine g_if_eqB (pc' := 22) (tgt := 69) C dX9_due_19 (by decide) rfl (fun _ => ?_) (fun z => absurd z (by decide))
    refine g_iload_n (pc' := 70) C 2 dX9_due_69 rfl rfl rfl ?_
    refine g_selM (ws' := [(u0, .inr (8, [.int (nI 1), .int (nI n), .ref u1, .ref u2, .int (nI ds), .ref u3, .int (nI mc), .ref u4, .ref u5, .ref u6, .ref u7, .ref u8, .int (nI len), .ref u9, .int (nI ba), .int (nI sm), .ref ua, .ref ub, .ref uc, .ref ud, .ref ue, .int (nI dy), .ref uf, .ref ug])), (uf, .inl (κ.2 0, 24, .inl (nA vf))), (ug, .inl (κ.2 0, 24, .inl (nA df)))]) [2, 0, 1] rfl rfl ?_
    exact g_retMi C hAe rfl rfl (Nat.le_of_ble_eq_true rfl) (Nat.le_of_ble_eq_true rfl) (⟨by rw [hc9] <;> rfl, by rw [hc9] <;> rfl⟩) dX9_due_70

set_option maxHeartbeats 4000000 in
set_option maxRecDepth 100000 in
theorem kX9_nextDue (l : Launch) (κ : KK) (u0 : Nat) (u1 : Nat) (u2 : Nat) (u3 : Nat) (u4 : Nat) (u5 : Nat) (u6 : Nat) (u7 : Nat) (u8 : Nat) (u9 : Nat) (ua : Nat) (ub : Nat) (uc : Nat) (ud : Nat) (ue : Nat) (uf : Nat) (ug : Nat) (t9 : Nat) (n : Nat) (ds : Nat) (mc : Nat) (len : Nat) (ba : Nat) (sm : Nat) (dy : Nat) (vf : Nat → Nat) (df : Nat → Nat) (p0 : Int32) (hvf : ∀ j, vf j ≤ 64) (hdf : ∀ j, df j < 2 ^ 30) (hdy : dy < 2 ^ 30) : CMi l yX9_nextDue cX9_nextDue 6 (some .int) 2 0 0 κ [.ref u0, .int p0] [(u0, .inr (8, [.int (nI t9), .int (nI n), .ref u1, .ref u2, .int (nI ds), .ref u3, .int (nI mc), .ref u4, .ref u5, .ref u6, .ref u7, .ref u8, .int (nI len), .ref u9, .int (nI ba), .int (nI sm), .ref ua, .ref ub, .ref uc, .ref ud, .ref ue, .int (nI dy), .ref uf, .ref ug])), (uf, .inl (κ.2 0, 24, .inl (nA vf))), (ug, .inl (κ.2 0, 24, .inl (nA df)))] (fun (vr_ : Int32) (vw_ : va_W) => vr_ = oI (if c_reader p0 = 0 then fsC (fun e => vf (8 * n9 p0 + e)) (fun e => df (8 * n9 p0 + e)) 8 else some 0) ∧ vw_ = [(u0, .inr (8, [.int (nI (c_reader p0)), .int (nI n), .ref u1, .ref u2, .int (nI ds), .ref u3, .int (nI mc), .ref u4, .ref u5, .ref u6, .ref u7, .ref u8, .int (nI len), .ref u9, .int (nI ba), .int (nI sm), .ref ua, .ref ub, .ref uc, .ref ud, .ref ue, .int (nI dy), .ref uf, .ref ug])), (uf, .inl (κ.2 0, 24, .inl (nA vf))), (ug, .inl (κ.2 0, 24, .inl (nA df)))]) := by
  refine cmi_of RX9 rfl (by decide) (Nat.le_of_ble_eq_true rfl) ?_
  intro p e s m below meth c A C hAe hA hini
  refine g_lv (lv' := [(0, .ref u0), (1, .int p0)]) [0, 1] rfl ?_
  refine g_iconst (pc' := 1) (v := (-1)) C dX9_nextDue_0 (by decide) rfl ?_
  refine g_istore_n (pc' := 2) (lv' := [(2, .int (-1)), (0, .ref u0), (1, .int p0)]) C dX9_nextDue_1 rfl (by decide) rfl rfl ?_
  refine g_aload_n (pc' := 3) C 1 dX9_nextDue_2 rfl rfl rfl ?_
  refine g_iload_n (pc' := 4) C 2 dX9_nextDue_3 rfl rfl rfl ?_
  refine g_callMi (pc' := 7) (wr := [(uf, .inl (κ.2 0, 24, .inl (nA vf))), (ug, .inl (κ.2 0, 24, .inl (nA df)))]) C hA lk_RX9_121 (kX9_isReader l κ u0 u1 u2 u3 u4 u5 u6 u7 u8 u9 ua ub uc ud ue uf ug t9 n ds mc len ba sm dy p0) 0 rfl rfl [0] [1, 2] rfl rfl ⟨rfl, rfl, by decide⟩ rfl (Nat.le_of_ble_eq_true rfl) ⟨Nat.le_of_ble_eq_true rfl, Nat.le_of_ble_eq_true rfl⟩ ⟨Nat.le_of_ble_eq_true rfl, Nat.le_of_ble_eq_true rfl⟩ rfl dX9_nextDue_4 rfl (fun r_4_1 w_4_1 h_4_1 => ?_)
  obtain ⟨rfl, rfl⟩ : r_4_1 = b2i (inZ 0 2 p0) ∧ w_4_1 = [(u0, .inr (8, [.int (nI (c_reader p0)), .int (nI n), .ref u1, .ref u2, .int (nI ds), .ref u3, .int (nI mc), .ref u4, .ref u5, .ref u6, .ref u7, .ref u8, .int (nI len), .ref u9, .int (nI ba), .int (nI sm), .ref ua, .ref ub, .ref uc, .ref ud, .ref ue, .int (nI dy), .ref uf, .ref ug]))] := h_4_1
  show G p l e (rmv 2 0 0) s m ([.ref u0, .int p0] : List Value).toArray below meth c κ 6 (JM A s) [(uf, .inl (κ.2 0, 24, .inl (nA vf))), (ug, .inl (κ.2 0, 24, .inl (nA df))), (u0, .inr (8, [.int (nI (c_reader p0)), .int (nI n), .ref u1, .ref u2, .int (nI ds), .ref u3, .int (nI mc), .ref u4, .ref u5, .ref u6, .ref u7, .ref u8, .int (nI len), .ref u9, .int (nI ba), .int (nI sm), .ref ua, .ref ub, .ref uc, .ref ud, .ref ue, .int (nI dy), .ref uf, .ref ug]))] 0 0 (MQ below (QMi κ [(u0, .inr (8, [.int (nI t9), .int (nI n), .ref u1, .ref u2, .int (nI ds), .ref u3, .int (nI mc), .ref u4, .ref u5, .ref u6, .ref u7, .ref u8, .int (nI len), .ref u9, .int (nI ba), .int (nI sm), .ref ua, .ref ub, .ref uc, .ref ud, .ref ue, .int (nI dy), .ref uf, .ref ug])), (uf, .inl (κ.2 0, 24, .inl (nA vf))), (ug, .inl (κ.2 0, 24, .inl (nA df)))] s.heap.size (fun (vr_ : Int32) (vw_ : va_W) => vr_ = oI (if c_reader p0 = 0 then fsC (fun e => vf (8 * n9 p0 + e)) (fun e => df (8 * n9 p0 + e)) 8 else some 0) ∧ vw_ = [(u0, .inr (8, [.int (nI (c_reader p0)), .int (nI n), .ref u1, .ref u2, .int (nI ds), .ref u3, .int (nI mc), .ref u4, .ref u5, .ref u6, .ref u7, .ref u8, .int (nI len), .ref u9, .int (nI ba), .int (nI sm), .ref ua, .ref ub, .ref uc, .ref ud, .ref ue, .int (nI dy), .ref uf, .ref ug])), (uf, .inl (κ.2 0, 24, .inl (nA vf))), (ug, .inl (κ.2 0, 24, .inl (nA df)))])) ([.ref u0, .int p0] : List Value).toArray s 0 0 A) 7 [(2, .int (-1)), (0, .ref u0), (1, .int p0)] [.int (b2i (inZ 0 2 p0))]
  rcases Bool.eq_false_or_eq_true (inZ 0 2 p0) with z0 | z0
  · have hc9 : c_reader p0 = 0 := by simp [c_reader, z0]
    refine g_val (y := b2i true) (by rw [z0]) ?_
    refine g_w (ws' := [(uf, .inl (κ.2 0, 24, .inl (nA vf))), (ug, .inl (κ.2 0, 24, .inl (nA df))), (u0, .inr (8, [.int (nI 0), .int (nI n), .ref u1, .ref u2, .int (nI ds), .ref u3, .int (nI mc), .ref u4, .ref u5, .ref u6, .ref u7, .ref u8, .int (nI len), .ref u9, .int (nI ba), .int (nI sm), .ref ua, .ref ub, .ref uc, .ref ud, .ref ue, .int (nI dy), .ref uf, .ref ug]))]) (by rw [hc9]) ?_
    obtain ⟨r9, -, hr9, rfl⟩ := inZ_w z0 (by decide)
    refine g_istore_n (pc' := 8) (lv' := [(3, .int (b2i true)), (2, .int (-1)), (0, .ref u0), (1, .int (nI r9))]) C dX9_nextDue_7 rfl (by decide) rfl rfl ?_
    refine g_iconst (pc' := 9) (v := nI 0) C dX9_nextDue_8 (by decide) rfl ?_
    refine g_istore (pc' := 11) (lv' := [(4, .int (nI 0)), (3, .int (b2i true)), (2, .int (-1)), (0, .ref u0), (1, .int (nI r9))]) C dX9_nextDue_9 (by decide) rfl rfl ?_
    have lp_a : ∀ (fu_a : Nat) (i : Nat) (o : Option Nat), (i ≤ 8) → (o = fsC (fun e => vf (8 * r9 + e)) (fun e => df (8 * r9 + e)) i) → (8 - i) < fu_a → G p l e (rmv 2 0 0) s m ([.ref u0, .int (nI r9)] : List Value).toArray below meth c κ 6 (JM A s) [(u0, .inr (8, [.int (nI 0), .int (nI n), .ref u1, .ref u2, .int (nI ds), .ref u3, .int (nI mc), .ref u4, .ref u5, .ref u6, .ref u7, .ref u8, .int (nI len), .ref u9, .int (nI ba), .int (nI sm), .ref ua, .ref ub, .ref uc, .ref ud, .ref ue, .int (nI dy), .ref uf, .ref ug])), (uf, .inl (κ.2 0, 24, .inl (nA vf))), (ug, .inl (κ.2 0, 24, .inl (nA df)))] 0 0 (MQ below (QMi κ [(u0, .inr (8, [.int (nI t9), .int (nI n), .ref u1, .ref u2, .int (nI ds), .ref u3, .int (nI mc), .ref u4, .ref u5, .ref u6, .ref u7, .ref u8, .int (nI len), .ref u9, .int (nI ba), .int (nI sm), .ref ua, .ref ub, .ref uc, .ref ud, .ref ue, .int (nI dy), .ref uf, .ref ug])), (uf, .inl (κ.2 0, 24, .inl (nA vf))), (ug, .inl (κ.2 0, 24, .inl (nA df)))] s.heap.size (fun (vr_ : Int32) (vw_ : va_W) => vr_ = oI (if c_reader (nI r9) = 0 then fsC (fun e => vf (8 * n9 (nI r9) + e)) (fun e => df (8 * n9 (nI r9) + e)) 8 else some 0) ∧ vw_ = [(u0, .inr (8, [.int (nI (c_reader (nI r9))), .int (nI n), .ref u1, .ref u2, .int (nI ds), .ref u3, .int (nI mc), .ref u4, .ref u5, .ref u6, .ref u7, .ref u8, .int (nI len), .ref u9, .int (nI ba), .int (nI sm), .ref ua, .ref ub, .ref uc, .ref ud, .ref ue, .int (nI dy), .ref uf, .ref ug])), (uf, .inl (κ.2 0, 24, .inl (nA vf))), (ug, .inl (κ.2 0, 24, .inl (nA df)))])) ([.ref u0, .int (nI r9)] : List Value).toArray s 0 0 A) 11 [(4, .int (nI i)), (2, .int (oI o)), (0, .ref u0), (1, .int (nI r9)), (3, .int (b2i true))] [] := by
      intro fu_a
      induction fu_a with
      | zero => intro i o hi ho hmu; exact absurd hmu (Nat.not_lt_zero _)
      | succ fu_a ih_a =>
        intro i o hi ho hmu_a
        refine g_iload (pc' := 13) C 0 dX9_nextDue_11 rfl rfl ?_
        refine g_bipush (pc' := 15) (v := nI 8) C dX9_nextDue_13 (by decide) rfl ?_
        refine g_icmp_geN (pc' := 18) (tgt := 80) C (by first | assumption | omega) (by first | assumption | omega) dX9_nextDue_15 (by decide) rfl (fun c_15_2 => ?_) (fun c_15_2 => ?_)
        · refine g_iload_n (pc' := 81) C 4 dX9_nextDue_80 rfl rfl rfl ?_
          refine g_if_eqB (pc' := 84) (tgt := 88) C dX9_nextDue_81 (by decide) rfl (fun z => absurd z (by decide)) (fun _ => ?_)
          refine g_iload_n (pc' := 85) C 1 dX9_nextDue_84 rfl rfl rfl ?_
          refine g_goto (tgt := 89) C dX9_nextDue_85 (by decide) ?_
          exact g_retMi C hAe rfl rfl (Nat.le_of_ble_eq_true rfl) (Nat.le_of_ble_eq_true rfl) (⟨by rw [hc9] <;> (try simp only [n9_nI (show r9 < 2147483648 by omega), ho, show i = 8 by omega]) <;> rfl, by rw [hc9] <;> rfl⟩) dX9_nextDue_89
        · refine g_iload_n (pc' := 19) C 4 dX9_nextDue_18 rfl rfl rfl ?_
          refine g_if_eqB (pc' := 22) (tgt := 80) C dX9_nextDue_19 (by decide) rfl (fun z => absurd z (by decide)) (fun _ => ?_)
          refine g_bipush (pc' := 24) (v := nI 8) C dX9_nextDue_22 (by decide) rfl ?_
          refine g_iload_n (pc' := 25) C 3 dX9_nextDue_24 rfl rfl rfl ?_
          refine g_imul (pc' := 26) (v := nI (8 * r9)) C dX9_nextDue_25 (pk_mul _ _) rfl ?_
          refine g_iload (pc' := 28) C 0 dX9_nextDue_26 rfl rfl ?_
          refine g_iadd (pc' := 29) (v := nI ((8 * r9) + i)) C dX9_nextDue_28 (nI_add _ _) rfl ?_
          refine g_istore (pc' := 31) (lv' := [(5, .int (nI ((8 * r9) + i))), (4, .int (nI i)), (2, .int (oI o)), (0, .ref u0), (1, .int (nI r9)), (3, .int (b2i true))]) C dX9_nextDue_29 (by decide) rfl rfl ?_
          refine g_aload_n (pc' := 32) C 3 dX9_nextDue_31 rfl rfl rfl ?_
          refine g_get (pc' := 35) C fl_RX9_57_8 0 rfl rfl dX9_nextDue_32 rfl ?_
          refine g_iload (pc' := 37) C 0 dX9_nextDue_35 rfl rfl ?_
          refine g_ialdN (pc' := 38) C 1 (f := vf) rfl ((8 * r9) + i) (by first | assumption | omega) (by decide) dX9_nextDue_37 rfl ?_
          refine g_if_leN (pc' := 41) (tgt := 72) C (by have q9 := hvf (8 * r9 + i); omega) dX9_nextDue_38 (by decide) rfl (fun c_38_5 => ?_) (fun c_38_5 => ?_)
          · refine g_iload_n (pc' := 73) C 2 dX9_nextDue_72 rfl rfl rfl ?_
            refine g_istore_n (pc' := 74) (lv' := [(2, .int (oI o)), (5, .int (nI ((8 * r9) + i))), (4, .int (nI i)), (0, .ref u0), (1, .int (nI r9)), (3, .int (b2i true))]) C dX9_nextDue_73 rfl (by decide) rfl rfl ?_
            refine g_iinc (pc' := 77) (v := nI (i + 1)) (lv' := [(4, .int (nI (i + 1))), (2, .int (oI o)), (5, .int (nI ((8 * r9) + i))), (0, .ref u0), (1, .int (nI r9)), (3, .int (b2i true))]) C 2 dX9_nextDue_74 rfl (iincN1 _) (by decide) rfl rfl ?_
            refine g_goto (tgt := 11) C dX9_nextDue_77 (by decide) ?_
            refine g_lv (lv' := [(4, .int (nI (i + 1))), (2, .int (oI o)), (0, .ref u0), (1, .int (nI r9)), (3, .int (b2i true))]) [0, 1, 3, 4, 5] rfl ?_
            exact ih_a (i + 1) o (by first | assumption | omega) (by have h9 : ¬ 0 < vf (8 * r9 + i) := (by omega); rw [fsC, ← ho]; cases o <;> simp [h9]) (by omega)
          · refine g_iload_n (pc' := 42) C 2 dX9_nextDue_41 rfl rfl rfl ?_
            refine g_iconst (pc' := 43) (v := (-1)) C dX9_nextDue_42 (by decide) rfl ?_
            refine g_icmp_eqO (pc' := 46) (tgt := 67) C (fun h q => by rw [ho] at q; have := fsC_lt q; omega) dX9_nextDue_43 (by decide) rfl (fun c_43_6 => ?_) (fun v_43_6 c_43_6 => ?_)
            · refine g_iload (pc' := 69) C 1 dX9_nextDue_67 rfl rfl ?_
              refine g_goto (tgt := 73) C dX9_nextDue_69 (by decide) ?_
              refine g_istore_n (pc' := 74) (lv' := [(2, .int (nI i)), (5, .int (nI ((8 * r9) + i))), (4, .int (nI i)), (0, .ref u0), (1, .int (nI r9)), (3, .int (b2i true))]) C dX9_nextDue_73 rfl (by decide) rfl rfl ?_
              refine g_iinc (pc' := 77) (v := nI (i + 1)) (lv' := [(4, .int (nI (i + 1))), (2, .int (nI i)), (5, .int (nI ((8 * r9) + i))), (0, .ref u0), (1, .int (nI r9)), (3, .int (b2i true))]) C 2 dX9_nextDue_74 rfl (iincN1 _) (by decide) rfl rfl ?_
              refine g_goto (tgt := 11) C dX9_nextDue_77 (by decide) ?_
              refine g_lv (lv' := [(4, .int (nI (i + 1))), (2, .int (nI i)), (0, .ref u0), (1, .int (nI r9)), (3, .int (b2i true))]) [0, 1, 3, 4, 5] rfl ?_
              exact ih_a (i + 1) (some i) (by first | assumption | omega) (by have h9 : 0 < vf (8 * r9 + i) := (by omega); rw [fsC, ← ho, c_43_6]; simp [h9]) (by omega)
            · refine g_aload_n (pc' := 47) C 3 dX9_nextDue_46 rfl rfl rfl ?_
              refine g_get (pc' := 50) C fl_RX9_60_8 0 rfl rfl dX9_nextDue_47 rfl ?_
              refine g_iload (pc' := 52) C 0 dX9_nextDue_50 rfl rfl ?_
              refine g_ialdN (pc' := 53) C 2 (f := df) rfl ((8 * r9) + i) (by first | assumption | omega) (by decide) dX9_nextDue_52 rfl ?_
              refine g_aload_n (pc' := 54) C 3 dX9_nextDue_53 rfl rfl rfl ?_
              refine g_get (pc' := 57) C fl_RX9_60_8 0 rfl rfl dX9_nextDue_54 rfl ?_
              refine g_bipush (pc' := 59) (v := nI 8) C dX9_nextDue_57 (by decide) rfl ?_
              refine g_iload_n (pc' := 60) C 4 dX9_nextDue_59 rfl rfl rfl ?_
              refine g_imul (pc' := 61) (v := nI (8 * r9)) C dX9_nextDue_60 (pk_mul _ _) rfl ?_
              refine g_iload_n (pc' := 62) C 2 dX9_nextDue_61 rfl rfl rfl ?_
              refine g_val (y := nI v_43_6) (by rw [c_43_6]; rfl) ?_
              refine g_iadd (pc' := 63) (v := nI ((8 * r9) + v_43_6)) C dX9_nextDue_62 (nI_add _ _) rfl ?_
              refine g_ialdN (pc' := 64) C 2 (f := df) rfl ((8 * r9) + v_43_6) (by have q := c_43_6; rw [ho] at q; have := fsC_lt q; omega) (by decide) dX9_nextDue_63 rfl ?_
              refine g_icmp_geN (pc' := 67) (tgt := 72) C (by have q9 := hdf (8 * r9 + i); omega) (by have q9 := hdf (8 * r9 + v_43_6); omega) dX9_nextDue_64 (by decide) rfl (fun c_64_7 => ?_) (fun c_64_7 => ?_)
              · refine g_iload_n (pc' := 73) C 2 dX9_nextDue_72 rfl rfl rfl ?_
                refine g_val (y := nI v_43_6) (by rw [c_43_6]; rfl) ?_
                refine g_istore_n (pc' := 74) (lv' := [(2, .int (nI v_43_6)), (5, .int (nI ((8 * r9) + i))), (4, .int (nI i)), (0, .ref u0), (1, .int (nI r9)), (3, .int (b2i true))]) C dX9_nextDue_73 rfl (by decide) rfl rfl ?_
                refine g_iinc (pc' := 77) (v := nI (i + 1)) (lv' := [(4, .int (nI (i + 1))), (2, .int (nI v_43_6)), (5, .int (nI ((8 * r9) + i))), (0, .ref u0), (1, .int (nI r9)), (3, .int (b2i true))]) C 2 dX9_nextDue_74 rfl (iincN1 _) (by decide) rfl rfl ?_
                refine g_goto (tgt := 11) C dX9_nextDue_77 (by decide) ?_
                refine g_lv (lv' := [(4, .int (nI (i + 1))), (2, .int (nI v_43_6)), (0, .ref u0), (1, .int (nI r9)), (3, .int (b2i true))]) [0, 1, 3, 4, 5] rfl ?_
                exact ih_a (i + 1) (some v_43_6) (by first | assumption | omega) (by have h9 : 0 < vf (8 * r9 + i) := (by omega); rw [fsC, ← ho, c_43_6]; simp; omega) (by omega)
              · refine g_iload (pc' := 69) C 1 dX9_nextDue_67 rfl rfl ?_
                refine g_goto (tgt := 73) C dX9_nextDue_69 (by decide) ?_
                refine g_istore_n (pc' := 74) (lv' := [(2, .int (nI i)), (5, .int (nI ((8 * r9) + i))), (4, .int (nI i)), (0, .ref u0), (1, .int (nI r9)), (3, .int (b2i true))]) C dX9_nextDue_73 rfl (by decide) rfl rfl ?_
                refine g_iinc (pc' := 77) (v := nI (i + 1)) (lv' := [(4, .int (nI (i + 1))), (2, .int (nI i)), (5, .int (nI ((8 * r9) + i))), (0, .ref u0), (1, .int (nI r9)), (3, .int (b2i true))]) C 2 dX9_nextDue_74 rfl (iincN1 _) (by decide) rfl rfl ?_
                refine g_goto (tgt := 11) C dX9_nextDue_77 (by decide) ?_
                refine g_lv (lv' := [(4, .int (nI (i + 1))), (2, .int (nI i)), (0, .ref u0), (1, .int (nI r9)), (3, .int (b2i true))]) [0, 1, 3, 4, 5] rfl ?_
                exact ih_a (i + 1) (some i) (by first | assumption | omega) (by have h9 : 0 < vf (8 * r9 + i) := (by omega); rw [fsC, ← ho, c_43_6]; simp; omega) (by omega)
    refine g_selM (ws' := [(u0, .inr (8, [.int (nI 0), .int (nI n), .ref u1, .ref u2, .int (nI ds), .ref u3, .int (nI mc), .ref u4, .ref u5, .ref u6, .ref u7, .ref u8, .int (nI len), .ref u9, .int (nI ba), .int (nI sm), .ref ua, .ref ub, .ref uc, .ref ud, .ref ue, .int (nI dy), .ref uf, .ref ug])), (uf, .inl (κ.2 0, 24, .inl (nA vf))), (ug, .inl (κ.2 0, 24, .inl (nA df)))]) [2, 0, 1] rfl rfl ?_
    refine g_lv (lv' := [(4, .int (nI 0)), (2, .int (-1)), (0, .ref u0), (1, .int (nI r9)), (3, .int (b2i true))]) [0, 2, 3, 4, 1] rfl ?_
    exact lp_a 9 0 none (Nat.zero_le _) rfl (by omega)
  · have hc9 : c_reader p0 = 1 := by simp [c_reader, z0]
    refine g_val (y := b2i false) (by rw [z0]) ?_
    refine g_w (ws' := [(uf, .inl (κ.2 0, 24, .inl (nA vf))), (ug, .inl (κ.2 0, 24, .inl (nA df))), (u0, .inr (8, [.int (nI 1), .int (nI n), .ref u1, .ref u2, .int (nI ds), .ref u3, .int (nI mc), .ref u4, .ref u5, .ref u6, .ref u7, .ref u8, .int (nI len), .ref u9, .int (nI ba), .int (nI sm), .ref ua, .ref ub, .ref uc, .ref ud, .ref ue, .int (nI dy), .ref uf, .ref ug]))]) (by rw [hc9]) ?_
    refine g_istore_n (pc' := 8) (lv' := [(3, .int (b2i false)), (2, .int (-1)), (0, .ref u0), (1, .int p0)]) C dX9_nextDue_7 rfl (by decide) rfl rfl ?_
    refine g_iconst (pc' := 9) (v := nI 0) C dX9_nextDue_8 (by decide) rfl ?_
    refine g_istore (pc' := 11) (lv' := [(4, .int (nI 0)), (3, .int (b2i false)), (2, .int (-1)), (0, .ref u0), (1, .int p0)]) C dX9_nextDue_9 (by decide) rfl rfl ?_
    refine g_iload (pc' := 13) C 0 dX9_nextDue_11 rfl rfl ?_
    refine g_bipush (pc' := 15) (v := nI 8) C dX9_nextDue_13 (by decide) rfl ?_
    refine g_icmp_geN (pc' := 18) (tgt := 80) C (by first | assumption | omega) (by first | assumption | omega) dX9_nextDue_15 (by decide) rfl (fun z => absurd z (by decide)) (fun _ => ?_)
    refine g_iload_n (pc' := 19) C 1 dX9_nextDue_18 rfl rfl rfl ?_
    refine g_if_eqB (pc' := 22) (tgt := 80) C dX9_nextDue_19 (by decide) rfl (fun _ => ?_) (fun z => absurd z (by decide))
    refine g_iload_n (pc' := 81) C 1 dX9_nextDue_80 rfl rfl rfl ?_
    refine g_if_eqB (pc' := 84) (tgt := 88) C dX9_nextDue_81 (by decide) rfl (fun _ => ?_) (fun z => absurd z (by decide))
    refine g_iconst (pc' := 89) (v := nI 0) C dX9_nextDue_88 (by decide) rfl ?_
    refine g_selM (ws' := [(u0, .inr (8, [.int (nI 1), .int (nI n), .ref u1, .ref u2, .int (nI ds), .ref u3, .int (nI mc), .ref u4, .ref u5, .ref u6, .ref u7, .ref u8, .int (nI len), .ref u9, .int (nI ba), .int (nI sm), .ref ua, .ref ub, .ref uc, .ref ud, .ref ue, .int (nI dy), .ref uf, .ref ug])), (uf, .inl (κ.2 0, 24, .inl (nA vf))), (ug, .inl (κ.2 0, 24, .inl (nA df)))]) [2, 0, 1] rfl rfl ?_
    exact g_retMi C hAe rfl rfl (Nat.le_of_ble_eq_true rfl) (Nat.le_of_ble_eq_true rfl) (⟨by rw [hc9] <;> rfl, by rw [hc9] <;> rfl⟩) dX9_nextDue_89

set_option maxHeartbeats 4000000 in
set_option maxRecDepth 100000 in
theorem kX9_init (l : Launch) (κ : KK) (u0 : Nat) : CMv l yX9_init cX9_init 1 none 0 16 538 κ [.ref u0] [(u0, .inr (8, [.int (nI 0), .int (nI 0), .null, .null, .int (nI 0), .null, .int (nI 0), .null, .null, .null, .null, .null, .int (nI 0), .null, .int (nI 0), .int (nI 0), .null, .null, .null, .null, .null, .int (nI 0), .null, .null]))] (fun (vw_ : va_W) => ∃ (u1 : Nat), ∃ (u2 : Nat), ∃ (u3 : Nat), ∃ (u4 : Nat), ∃ (u5 : Nat), ∃ (u6 : Nat), ∃ (u7 : Nat), ∃ (u8 : Nat), ∃ (u9 : Nat), ∃ (ua : Nat), ∃ (ub : Nat), ∃ (uc : Nat), ∃ (ud : Nat), ∃ (ue : Nat), ∃ (uf : Nat), ∃ (ug : Nat), vw_ = [(u0, .inr (8, [.int (nI 0), .int (nI 0), .ref u1, .ref u2, .int (nI 0), .ref u3, .int (nI 0), .ref u4, .ref u5, .ref u6, .ref u7, .ref u8, .int (nI 0), .ref u9, .int (nI 10), .int (nI 0), .ref ua, .ref ub, .ref uc, .ref ud, .ref ue, .int (nI 0), .ref uf, .ref ug])), (u1, .inl (κ.2 0, 6, .inl (nA (fun _ => 0)))), (u2, .inl (κ.2 0, 6, .inl (nA (fun _ => 0)))), (u3, .inl (κ.2 0, 4, .inl (oA (fun _ => some 0)))), (u4, .inl (κ.2 1, 8, .inl (zA (fun _ => false)))), (u5, .inl (κ.2 0, 8, .inl (nA (fun _ => 0)))), (u6, .inl (κ.2 0, 8, .inl (oA (fun _ => some 0)))), (u7, .inl (κ.2 0, 8, .inl (nA (fun _ => 0)))), (u8, .inl (κ.2 0, 32, .inl (oA (fun _ => some 0)))), (u9, .inl (κ.2 0, 6, .inl (nA (fun _ => 0)))), (ua, .inl (κ.2 0, 160, .inl (nA (fun _ => 0)))), (ub, .inl (κ.2 0, 160, .inl (nA (fun _ => 0)))), (uc, .inl (κ.2 0, 64, .inl (nA (fun _ => 0)))), (ud, .inl (κ.2 0, 6, .inl (oA (fun _ => some 0)))), (ue, .inl (κ.2 0, 6, .inl (nA (fun _ => 0)))), (uf, .inl (κ.2 0, 24, .inl (nA (fun _ => 0)))), (ug, .inl (κ.2 0, 24, .inl (nA (fun _ => 0))))]) := by
  refine cmv_of RX9 rfl (by decide) (Nat.le_of_ble_eq_true rfl) ?_
  intro p e s m below meth c A C hAe hA hini
  refine g_lv (lv' := [(0, .ref u0)]) [0] rfl ?_
  refine g_aload_n (pc' := 1) C 0 dX9_init_0 rfl rfl rfl ?_
  refine g_objInit (pc' := 4) C oi_RX9_1 wd_oi2 wd_oi3 (Nat.le_of_ble_eq_true rfl) (Nat.le_of_ble_eq_true rfl) dX9_init_1 rfl ?_
  refine g_aload_n (pc' := 5) C 0 dX9_init_4 rfl rfl rfl ?_
  refine g_bipush (pc' := 7) (v := nI 6) C dX9_init_5 (by decide) rfl ?_
  refine g_newI (pc' := 9) (z := 6) C hA wd_arr_int (by decide) (Nat.le_of_ble_eq_true rfl) (Nat.le_of_ble_eq_true rfl) dX9_init_7 rfl (fun q_7_1 => ?_)
  show G p l e (rmv 0 16 538) s m ([.ref u0] : List Value).toArray below meth c κ 1 (JM A s) [(u0, .inr (8, [.int (nI 0), .int (nI 0), .null, .null, .int (nI 0), .null, .int (nI 0), .null, .null, .null, .null, .null, .int (nI 0), .null, .int (nI 0), .int (nI 0), .null, .null, .null, .null, .null, .int (nI 0), .null, .null])), (q_7_1, .inl (κ.2 0, 6, .inl (nA (fun _ => 0))))] 1 6 (MQ below (QMv κ [(u0, .inr (8, [.int (nI 0), .int (nI 0), .null, .null, .int (nI 0), .null, .int (nI 0), .null, .null, .null, .null, .null, .int (nI 0), .null, .int (nI 0), .int (nI 0), .null, .null, .null, .null, .null, .int (nI 0), .null, .null]))] s.heap.size (fun (vw_ : va_W) => ∃ (u1 : Nat), ∃ (u2 : Nat), ∃ (u3 : Nat), ∃ (u4 : Nat), ∃ (u5 : Nat), ∃ (u6 : Nat), ∃ (u7 : Nat), ∃ (u8 : Nat), ∃ (u9 : Nat), ∃ (ua : Nat), ∃ (ub : Nat), ∃ (uc : Nat), ∃ (ud : Nat), ∃ (ue : Nat), ∃ (uf : Nat), ∃ (ug : Nat), vw_ = [(u0, .inr (8, [.int (nI 0), .int (nI 0), .ref u1, .ref u2, .int (nI 0), .ref u3, .int (nI 0), .ref u4, .ref u5, .ref u6, .ref u7, .ref u8, .int (nI 0), .ref u9, .int (nI 10), .int (nI 0), .ref ua, .ref ub, .ref uc, .ref ud, .ref ue, .int (nI 0), .ref uf, .ref ug])), (u1, .inl (κ.2 0, 6, .inl (nA (fun _ => 0)))), (u2, .inl (κ.2 0, 6, .inl (nA (fun _ => 0)))), (u3, .inl (κ.2 0, 4, .inl (oA (fun _ => some 0)))), (u4, .inl (κ.2 1, 8, .inl (zA (fun _ => false)))), (u5, .inl (κ.2 0, 8, .inl (nA (fun _ => 0)))), (u6, .inl (κ.2 0, 8, .inl (oA (fun _ => some 0)))), (u7, .inl (κ.2 0, 8, .inl (nA (fun _ => 0)))), (u8, .inl (κ.2 0, 32, .inl (oA (fun _ => some 0)))), (u9, .inl (κ.2 0, 6, .inl (nA (fun _ => 0)))), (ua, .inl (κ.2 0, 160, .inl (nA (fun _ => 0)))), (ub, .inl (κ.2 0, 160, .inl (nA (fun _ => 0)))), (uc, .inl (κ.2 0, 64, .inl (nA (fun _ => 0)))), (ud, .inl (κ.2 0, 6, .inl (oA (fun _ => some 0)))), (ue, .inl (κ.2 0, 6, .inl (nA (fun _ => 0)))), (uf, .inl (κ.2 0, 24, .inl (nA (fun _ => 0)))), (ug, .inl (κ.2 0, 24, .inl (nA (fun _ => 0))))])) ([.ref u0] : List Value).toArray s 16 538 A) 9 [(0, .ref u0)] [.ref q_7_1, .ref u0]
  refine g_putF (pc' := 12) (ws' := [(u0, .inr (8, [.int (nI 0), .int (nI 0), .ref q_7_1, .null, .int (nI 0), .null, .int (nI 0), .null, .null, .null, .null, .null, .int (nI 0), .null, .int (nI 0), .int (nI 0), .null, .null, .null, .null, .null, .int (nI 0), .null, .null])), (q_7_1, .inl (κ.2 0, 6, .inl (nA (fun _ => 0))))]) C (hini rfl) fp_RX9_7_8 0 rfl rfl rfl (Nat.le_of_ble_eq_true rfl) rfl dX9_init_9 rfl ?_
  refine g_aload_n (pc' := 13) C 0 dX9_init_12 rfl rfl rfl ?_
  refine g_bipush (pc' := 15) (v := nI 6) C dX9_init_13 (by decide) rfl ?_
  refine g_newI (pc' := 17) (z := 6) C hA wd_arr_int (by decide) (Nat.le_of_ble_eq_true rfl) (Nat.le_of_ble_eq_true rfl) dX9_init_15 rfl (fun q_15_2 => ?_)
  show G p l e (rmv 0 16 538) s m ([.ref u0] : List Value).toArray below meth c κ 1 (JM A s) [(u0, .inr (8, [.int (nI 0), .int (nI 0), .ref q_7_1, .null, .int (nI 0), .null, .int (nI 0), .null, .null, .null, .null, .null, .int (nI 0), .null, .int (nI 0), .int (nI 0), .null, .null, .null, .null, .null, .int (nI 0), .null, .null])), (q_7_1, .inl (κ.2 0, 6, .inl (nA (fun _ => 0)))), (q_15_2, .inl (κ.2 0, 6, .inl (nA (fun _ => 0))))] 2 12 (MQ below (QMv κ [(u0, .inr (8, [.int (nI 0), .int (nI 0), .null, .null, .int (nI 0), .null, .int (nI 0), .null, .null, .null, .null, .null, .int (nI 0), .null, .int (nI 0), .int (nI 0), .null, .null, .null, .null, .null, .int (nI 0), .null, .null]))] s.heap.size (fun (vw_ : va_W) => ∃ (u1 : Nat), ∃ (u2 : Nat), ∃ (u3 : Nat), ∃ (u4 : Nat), ∃ (u5 : Nat), ∃ (u6 : Nat), ∃ (u7 : Nat), ∃ (u8 : Nat), ∃ (u9 : Nat), ∃ (ua : Nat), ∃ (ub : Nat), ∃ (uc : Nat), ∃ (ud : Nat), ∃ (ue : Nat), ∃ (uf : Nat), ∃ (ug : Nat), vw_ = [(u0, .inr (8, [.int (nI 0), .int (nI 0), .ref u1, .ref u2, .int (nI 0), .ref u3, .int (nI 0), .ref u4, .ref u5, .ref u6, .ref u7, .ref u8, .int (nI 0), .ref u9, .int (nI 10), .int (nI 0), .ref ua, .ref ub, .ref uc, .ref ud, .ref ue, .int (nI 0), .ref uf, .ref ug])), (u1, .inl (κ.2 0, 6, .inl (nA (fun _ => 0)))), (u2, .inl (κ.2 0, 6, .inl (nA (fun _ => 0)))), (u3, .inl (κ.2 0, 4, .inl (oA (fun _ => some 0)))), (u4, .inl (κ.2 1, 8, .inl (zA (fun _ => false)))), (u5, .inl (κ.2 0, 8, .inl (nA (fun _ => 0)))), (u6, .inl (κ.2 0, 8, .inl (oA (fun _ => some 0)))), (u7, .inl (κ.2 0, 8, .inl (nA (fun _ => 0)))), (u8, .inl (κ.2 0, 32, .inl (oA (fun _ => some 0)))), (u9, .inl (κ.2 0, 6, .inl (nA (fun _ => 0)))), (ua, .inl (κ.2 0, 160, .inl (nA (fun _ => 0)))), (ub, .inl (κ.2 0, 160, .inl (nA (fun _ => 0)))), (uc, .inl (κ.2 0, 64, .inl (nA (fun _ => 0)))), (ud, .inl (κ.2 0, 6, .inl (oA (fun _ => some 0)))), (ue, .inl (κ.2 0, 6, .inl (nA (fun _ => 0)))), (uf, .inl (κ.2 0, 24, .inl (nA (fun _ => 0)))), (ug, .inl (κ.2 0, 24, .inl (nA (fun _ => 0))))])) ([.ref u0] : List Value).toArray s 16 538 A) 17 [(0, .ref u0)] [.ref q_15_2, .ref u0]
  refine g_putF (pc' := 20) (ws' := [(u0, .inr (8, [.int (nI 0), .int (nI 0), .ref q_7_1, .ref q_15_2, .int (nI 0), .null, .int (nI 0), .null, .null, .null, .null, .null, .int (nI 0), .null, .int (nI 0), .int (nI 0), .null, .null, .null, .null, .null, .int (nI 0), .null, .null])), (q_7_1, .inl (κ.2 0, 6, .inl (nA (fun _ => 0)))), (q_15_2, .inl (κ.2 0, 6, .inl (nA (fun _ => 0))))]) C (hini rfl) fp_RX9_13_8 0 rfl rfl rfl (Nat.le_of_ble_eq_true rfl) rfl dX9_init_17 rfl ?_
  refine g_aload_n (pc' := 21) C 0 dX9_init_20 rfl rfl rfl ?_
  refine g_iconst (pc' := 22) (v := nI 4) C dX9_init_21 (by decide) rfl ?_
  refine g_newI (pc' := 24) (z := 4) C hA wd_arr_int (by decide) (Nat.le_of_ble_eq_true rfl) (Nat.le_of_ble_eq_true rfl) dX9_init_22 rfl (fun q_22_3 => ?_)
  show G p l e (rmv 0 16 538) s m ([.ref u0] : List Value).toArray below meth c κ 1 (JM A s) [(u0, .inr (8, [.int (nI 0), .int (nI 0), .ref q_7_1, .ref q_15_2, .int (nI 0), .null, .int (nI 0), .null, .null, .null, .null, .null, .int (nI 0), .null, .int (nI 0), .int (nI 0), .null, .null, .null, .null, .null, .int (nI 0), .null, .null])), (q_7_1, .inl (κ.2 0, 6, .inl (nA (fun _ => 0)))), (q_15_2, .inl (κ.2 0, 6, .inl (nA (fun _ => 0)))), (q_22_3, .inl (κ.2 0, 4, .inl (oA (fun _ => some 0))))] 3 16 (MQ below (QMv κ [(u0, .inr (8, [.int (nI 0), .int (nI 0), .null, .null, .int (nI 0), .null, .int (nI 0), .null, .null, .null, .null, .null, .int (nI 0), .null, .int (nI 0), .int (nI 0), .null, .null, .null, .null, .null, .int (nI 0), .null, .null]))] s.heap.size (fun (vw_ : va_W) => ∃ (u1 : Nat), ∃ (u2 : Nat), ∃ (u3 : Nat), ∃ (u4 : Nat), ∃ (u5 : Nat), ∃ (u6 : Nat), ∃ (u7 : Nat), ∃ (u8 : Nat), ∃ (u9 : Nat), ∃ (ua : Nat), ∃ (ub : Nat), ∃ (uc : Nat), ∃ (ud : Nat), ∃ (ue : Nat), ∃ (uf : Nat), ∃ (ug : Nat), vw_ = [(u0, .inr (8, [.int (nI 0), .int (nI 0), .ref u1, .ref u2, .int (nI 0), .ref u3, .int (nI 0), .ref u4, .ref u5, .ref u6, .ref u7, .ref u8, .int (nI 0), .ref u9, .int (nI 10), .int (nI 0), .ref ua, .ref ub, .ref uc, .ref ud, .ref ue, .int (nI 0), .ref uf, .ref ug])), (u1, .inl (κ.2 0, 6, .inl (nA (fun _ => 0)))), (u2, .inl (κ.2 0, 6, .inl (nA (fun _ => 0)))), (u3, .inl (κ.2 0, 4, .inl (oA (fun _ => some 0)))), (u4, .inl (κ.2 1, 8, .inl (zA (fun _ => false)))), (u5, .inl (κ.2 0, 8, .inl (nA (fun _ => 0)))), (u6, .inl (κ.2 0, 8, .inl (oA (fun _ => some 0)))), (u7, .inl (κ.2 0, 8, .inl (nA (fun _ => 0)))), (u8, .inl (κ.2 0, 32, .inl (oA (fun _ => some 0)))), (u9, .inl (κ.2 0, 6, .inl (nA (fun _ => 0)))), (ua, .inl (κ.2 0, 160, .inl (nA (fun _ => 0)))), (ub, .inl (κ.2 0, 160, .inl (nA (fun _ => 0)))), (uc, .inl (κ.2 0, 64, .inl (nA (fun _ => 0)))), (ud, .inl (κ.2 0, 6, .inl (oA (fun _ => some 0)))), (ue, .inl (κ.2 0, 6, .inl (nA (fun _ => 0)))), (uf, .inl (κ.2 0, 24, .inl (nA (fun _ => 0)))), (ug, .inl (κ.2 0, 24, .inl (nA (fun _ => 0))))])) ([.ref u0] : List Value).toArray s 16 538 A) 24 [(0, .ref u0)] [.ref q_22_3, .ref u0]
  refine g_putF (pc' := 27) (ws' := [(u0, .inr (8, [.int (nI 0), .int (nI 0), .ref q_7_1, .ref q_15_2, .int (nI 0), .ref q_22_3, .int (nI 0), .null, .null, .null, .null, .null, .int (nI 0), .null, .int (nI 0), .int (nI 0), .null, .null, .null, .null, .null, .int (nI 0), .null, .null])), (q_7_1, .inl (κ.2 0, 6, .inl (nA (fun _ => 0)))), (q_15_2, .inl (κ.2 0, 6, .inl (nA (fun _ => 0)))), (q_22_3, .inl (κ.2 0, 4, .inl (oA (fun _ => some 0))))]) C (hini rfl) fp_RX9_16_8 0 rfl rfl rfl (Nat.le_of_ble_eq_true rfl) rfl dX9_init_24 rfl ?_
  refine g_aload_n (pc' := 28) C 0 dX9_init_27 rfl rfl rfl ?_
  refine g_bipush (pc' := 30) (v := nI 8) C dX9_init_28 (by decide) rfl ?_
  refine g_newZ (pc' := 32) (z := 8) C hA wd_arr_boolean (by decide) (Nat.le_of_ble_eq_true rfl) (Nat.le_of_ble_eq_true rfl) dX9_init_30 rfl (fun q_30_4 => ?_)
  show G p l e (rmv 0 16 538) s m ([.ref u0] : List Value).toArray below meth c κ 1 (JM A s) [(u0, .inr (8, [.int (nI 0), .int (nI 0), .ref q_7_1, .ref q_15_2, .int (nI 0), .ref q_22_3, .int (nI 0), .null, .null, .null, .null, .null, .int (nI 0), .null, .int (nI 0), .int (nI 0), .null, .null, .null, .null, .null, .int (nI 0), .null, .null])), (q_7_1, .inl (κ.2 0, 6, .inl (nA (fun _ => 0)))), (q_15_2, .inl (κ.2 0, 6, .inl (nA (fun _ => 0)))), (q_22_3, .inl (κ.2 0, 4, .inl (oA (fun _ => some 0)))), (q_30_4, .inl (κ.2 1, 8, .inl (zA (fun _ => false))))] 4 24 (MQ below (QMv κ [(u0, .inr (8, [.int (nI 0), .int (nI 0), .null, .null, .int (nI 0), .null, .int (nI 0), .null, .null, .null, .null, .null, .int (nI 0), .null, .int (nI 0), .int (nI 0), .null, .null, .null, .null, .null, .int (nI 0), .null, .null]))] s.heap.size (fun (vw_ : va_W) => ∃ (u1 : Nat), ∃ (u2 : Nat), ∃ (u3 : Nat), ∃ (u4 : Nat), ∃ (u5 : Nat), ∃ (u6 : Nat), ∃ (u7 : Nat), ∃ (u8 : Nat), ∃ (u9 : Nat), ∃ (ua : Nat), ∃ (ub : Nat), ∃ (uc : Nat), ∃ (ud : Nat), ∃ (ue : Nat), ∃ (uf : Nat), ∃ (ug : Nat), vw_ = [(u0, .inr (8, [.int (nI 0), .int (nI 0), .ref u1, .ref u2, .int (nI 0), .ref u3, .int (nI 0), .ref u4, .ref u5, .ref u6, .ref u7, .ref u8, .int (nI 0), .ref u9, .int (nI 10), .int (nI 0), .ref ua, .ref ub, .ref uc, .ref ud, .ref ue, .int (nI 0), .ref uf, .ref ug])), (u1, .inl (κ.2 0, 6, .inl (nA (fun _ => 0)))), (u2, .inl (κ.2 0, 6, .inl (nA (fun _ => 0)))), (u3, .inl (κ.2 0, 4, .inl (oA (fun _ => some 0)))), (u4, .inl (κ.2 1, 8, .inl (zA (fun _ => false)))), (u5, .inl (κ.2 0, 8, .inl (nA (fun _ => 0)))), (u6, .inl (κ.2 0, 8, .inl (oA (fun _ => some 0)))), (u7, .inl (κ.2 0, 8, .inl (nA (fun _ => 0)))), (u8, .inl (κ.2 0, 32, .inl (oA (fun _ => some 0)))), (u9, .inl (κ.2 0, 6, .inl (nA (fun _ => 0)))), (ua, .inl (κ.2 0, 160, .inl (nA (fun _ => 0)))), (ub, .inl (κ.2 0, 160, .inl (nA (fun _ => 0)))), (uc, .inl (κ.2 0, 64, .inl (nA (fun _ => 0)))), (ud, .inl (κ.2 0, 6, .inl (oA (fun _ => some 0)))), (ue, .inl (κ.2 0, 6, .inl (nA (fun _ => 0)))), (uf, .inl (κ.2 0, 24, .inl (nA (fun _ => 0)))), (ug, .inl (κ.2 0, 24, .inl (nA (fun _ => 0))))])) ([.ref u0] : List Value).toArray s 16 538 A) 32 [(0, .ref u0)] [.ref q_30_4, .ref u0]
  refine g_putF (pc' := 35) (ws' := [(u0, .inr (8, [.int (nI 0), .int (nI 0), .ref q_7_1, .ref q_15_2, .int (nI 0), .ref q_22_3, .int (nI 0), .ref q_30_4, .null, .null, .null, .null, .int (nI 0), .null, .int (nI 0), .int (nI 0), .null, .null, .null, .null, .null, .int (nI 0), .null, .null])), (q_7_1, .inl (κ.2 0, 6, .inl (nA (fun _ => 0)))), (q_15_2, .inl (κ.2 0, 6, .inl (nA (fun _ => 0)))), (q_22_3, .inl (κ.2 0, 4, .inl (oA (fun _ => some 0)))), (q_30_4, .inl (κ.2 1, 8, .inl (zA (fun _ => false))))]) C (hini rfl) fp_RX9_19_8 0 rfl rfl rfl (Nat.le_of_ble_eq_true rfl) rfl dX9_init_32 rfl ?_
  refine g_aload_n (pc' := 36) C 0 dX9_init_35 rfl rfl rfl ?_
  refine g_bipush (pc' := 38) (v := nI 8) C dX9_init_36 (by decide) rfl ?_
  refine g_newI (pc' := 40) (z := 8) C hA wd_arr_int (by decide) (Nat.le_of_ble_eq_true rfl) (Nat.le_of_ble_eq_true rfl) dX9_init_38 rfl (fun q_38_5 => ?_)
  show G p l e (rmv 0 16 538) s m ([.ref u0] : List Value).toArray below meth c κ 1 (JM A s) [(u0, .inr (8, [.int (nI 0), .int (nI 0), .ref q_7_1, .ref q_15_2, .int (nI 0), .ref q_22_3, .int (nI 0), .ref q_30_4, .null, .null, .null, .null, .int (nI 0), .null, .int (nI 0), .int (nI 0), .null, .null, .null, .null, .null, .int (nI 0), .null, .null])), (q_7_1, .inl (κ.2 0, 6, .inl (nA (fun _ => 0)))), (q_15_2, .inl (κ.2 0, 6, .inl (nA (fun _ => 0)))), (q_22_3, .inl (κ.2 0, 4, .inl (oA (fun _ => some 0)))), (q_30_4, .inl (κ.2 1, 8, .inl (zA (fun _ => false)))), (q_38_5, .inl (κ.2 0, 8, .inl (nA (fun _ => 0))))] 5 32 (MQ below (QMv κ [(u0, .inr (8, [.int (nI 0), .int (nI 0), .null, .null, .int (nI 0), .null, .int (nI 0), .null, .null, .null, .null, .null, .int (nI 0), .null, .int (nI 0), .int (nI 0), .null, .null, .null, .null, .null, .int (nI 0), .null, .null]))] s.heap.size (fun (vw_ : va_W) => ∃ (u1 : Nat), ∃ (u2 : Nat), ∃ (u3 : Nat), ∃ (u4 : Nat), ∃ (u5 : Nat), ∃ (u6 : Nat), ∃ (u7 : Nat), ∃ (u8 : Nat), ∃ (u9 : Nat), ∃ (ua : Nat), ∃ (ub : Nat), ∃ (uc : Nat), ∃ (ud : Nat), ∃ (ue : Nat), ∃ (uf : Nat), ∃ (ug : Nat), vw_ = [(u0, .inr (8, [.int (nI 0), .int (nI 0), .ref u1, .ref u2, .int (nI 0), .ref u3, .int (nI 0), .ref u4, .ref u5, .ref u6, .ref u7, .ref u8, .int (nI 0), .ref u9, .int (nI 10), .int (nI 0), .ref ua, .ref ub, .ref uc, .ref ud, .ref ue, .int (nI 0), .ref uf, .ref ug])), (u1, .inl (κ.2 0, 6, .inl (nA (fun _ => 0)))), (u2, .inl (κ.2 0, 6, .inl (nA (fun _ => 0)))), (u3, .inl (κ.2 0, 4, .inl (oA (fun _ => some 0)))), (u4, .inl (κ.2 1, 8, .inl (zA (fun _ => false)))), (u5, .inl (κ.2 0, 8, .inl (nA (fun _ => 0)))), (u6, .inl (κ.2 0, 8, .inl (oA (fun _ => some 0)))), (u7, .inl (κ.2 0, 8, .inl (nA (fun _ => 0)))), (u8, .inl (κ.2 0, 32, .inl (oA (fun _ => some 0)))), (u9, .inl (κ.2 0, 6, .inl (nA (fun _ => 0)))), (ua, .inl (κ.2 0, 160, .inl (nA (fun _ => 0)))), (ub, .inl (κ.2 0, 160, .inl (nA (fun _ => 0)))), (uc, .inl (κ.2 0, 64, .inl (nA (fun _ => 0)))), (ud, .inl (κ.2 0, 6, .inl (oA (fun _ => some 0)))), (ue, .inl (κ.2 0, 6, .inl (nA (fun _ => 0)))), (uf, .inl (κ.2 0, 24, .inl (nA (fun _ => 0)))), (ug, .inl (κ.2 0, 24, .inl (nA (fun _ => 0))))])) ([.ref u0] : List Value).toArray s 16 538 A) 40 [(0, .ref u0)] [.ref q_38_5, .ref u0]
  refine g_putF (pc' := 43) (ws' := [(u0, .inr (8, [.int (nI 0), .int (nI 0), .ref q_7_1, .ref q_15_2, .int (nI 0), .ref q_22_3, .int (nI 0), .ref q_30_4, .ref q_38_5, .null, .null, .null, .int (nI 0), .null, .int (nI 0), .int (nI 0), .null, .null, .null, .null, .null, .int (nI 0), .null, .null])), (q_7_1, .inl (κ.2 0, 6, .inl (nA (fun _ => 0)))), (q_15_2, .inl (κ.2 0, 6, .inl (nA (fun _ => 0)))), (q_22_3, .inl (κ.2 0, 4, .inl (oA (fun _ => some 0)))), (q_30_4, .inl (κ.2 1, 8, .inl (zA (fun _ => false)))), (q_38_5, .inl (κ.2 0, 8, .inl (nA (fun _ => 0))))]) C (hini rfl) fp_RX9_23_8 0 rfl rfl rfl (Nat.le_of_ble_eq_true rfl) rfl dX9_init_40 rfl ?_
  refine g_aload_n (pc' := 44) C 0 dX9_init_43 rfl rfl rfl ?_
  refine g_bipush (pc' := 46) (v := nI 8) C dX9_init_44 (by decide) rfl ?_
  refine g_newI (pc' := 48) (z := 8) C hA wd_arr_int (by decide) (Nat.le_of_ble_eq_true rfl) (Nat.le_of_ble_eq_true rfl) dX9_init_46 rfl (fun q_46_6 => ?_)
  show G p l e (rmv 0 16 538) s m ([.ref u0] : List Value).toArray below meth c κ 1 (JM A s) [(u0, .inr (8, [.int (nI 0), .int (nI 0), .ref q_7_1, .ref q_15_2, .int (nI 0), .ref q_22_3, .int (nI 0), .ref q_30_4, .ref q_38_5, .null, .null, .null, .int (nI 0), .null, .int (nI 0), .int (nI 0), .null, .null, .null, .null, .null, .int (nI 0), .null, .null])), (q_7_1, .inl (κ.2 0, 6, .inl (nA (fun _ => 0)))), (q_15_2, .inl (κ.2 0, 6, .inl (nA (fun _ => 0)))), (q_22_3, .inl (κ.2 0, 4, .inl (oA (fun _ => some 0)))), (q_30_4, .inl (κ.2 1, 8, .inl (zA (fun _ => false)))), (q_38_5, .inl (κ.2 0, 8, .inl (nA (fun _ => 0)))), (q_46_6, .inl (κ.2 0, 8, .inl (oA (fun _ => some 0))))] 6 40 (MQ below (QMv κ [(u0, .inr (8, [.int (nI 0), .int (nI 0), .null, .null, .int (nI 0), .null, .int (nI 0), .null, .null, .null, .null, .null, .int (nI 0), .null, .int (nI 0), .int (nI 0), .null, .null, .null, .null, .null, .int (nI 0), .null, .null]))] s.heap.size (fun (vw_ : va_W) => ∃ (u1 : Nat), ∃ (u2 : Nat), ∃ (u3 : Nat), ∃ (u4 : Nat), ∃ (u5 : Nat), ∃ (u6 : Nat), ∃ (u7 : Nat), ∃ (u8 : Nat), ∃ (u9 : Nat), ∃ (ua : Nat), ∃ (ub : Nat), ∃ (uc : Nat), ∃ (ud : Nat), ∃ (ue : Nat), ∃ (uf : Nat), ∃ (ug : Nat), vw_ = [(u0, .inr (8, [.int (nI 0), .int (nI 0), .ref u1, .ref u2, .int (nI 0), .ref u3, .int (nI 0), .ref u4, .ref u5, .ref u6, .ref u7, .ref u8, .int (nI 0), .ref u9, .int (nI 10), .int (nI 0), .ref ua, .ref ub, .ref uc, .ref ud, .ref ue, .int (nI 0), .ref uf, .ref ug])), (u1, .inl (κ.2 0, 6, .inl (nA (fun _ => 0)))), (u2, .inl (κ.2 0, 6, .inl (nA (fun _ => 0)))), (u3, .inl (κ.2 0, 4, .inl (oA (fun _ => some 0)))), (u4, .inl (κ.2 1, 8, .inl (zA (fun _ => false)))), (u5, .inl (κ.2 0, 8, .inl (nA (fun _ => 0)))), (u6, .inl (κ.2 0, 8, .inl (oA (fun _ => some 0)))), (u7, .inl (κ.2 0, 8, .inl (nA (fun _ => 0)))), (u8, .inl (κ.2 0, 32, .inl (oA (fun _ => some 0)))), (u9, .inl (κ.2 0, 6, .inl (nA (fun _ => 0)))), (ua, .inl (κ.2 0, 160, .inl (nA (fun _ => 0)))), (ub, .inl (κ.2 0, 160, .inl (nA (fun _ => 0)))), (uc, .inl (κ.2 0, 64, .inl (nA (fun _ => 0)))), (ud, .inl (κ.2 0, 6, .inl (oA (fun _ => some 0)))), (ue, .inl (κ.2 0, 6, .inl (nA (fun _ => 0)))), (uf, .inl (κ.2 0, 24, .inl (nA (fun _ => 0)))), (ug, .inl (κ.2 0, 24, .inl (nA (fun _ => 0))))])) ([.ref u0] : List Value).toArray s 16 538 A) 48 [(0, .ref u0)] [.ref q_46_6, .ref u0]
  refine g_putF (pc' := 51) (ws' := [(u0, .inr (8, [.int (nI 0), .int (nI 0), .ref q_7_1, .ref q_15_2, .int (nI 0), .ref q_22_3, .int (nI 0), .ref q_30_4, .ref q_38_5, .ref q_46_6, .null, .null, .int (nI 0), .null, .int (nI 0), .int (nI 0), .null, .null, .null, .null, .null, .int (nI 0), .null, .null])), (q_7_1, .inl (κ.2 0, 6, .inl (nA (fun _ => 0)))), (q_15_2, .inl (κ.2 0, 6, .inl (nA (fun _ => 0)))), (q_22_3, .inl (κ.2 0, 4, .inl (oA (fun _ => some 0)))), (q_30_4, .inl (κ.2 1, 8, .inl (zA (fun _ => false)))), (q_38_5, .inl (κ.2 0, 8, .inl (nA (fun _ => 0)))), (q_46_6, .inl (κ.2 0, 8, .inl (oA (fun _ => some 0))))]) C (hini rfl) fp_RX9_26_8 0 rfl rfl rfl (Nat.le_of_ble_eq_true rfl) rfl dX9_init_48 rfl ?_
  refine g_aload_n (pc' := 52) C 0 dX9_init_51 rfl rfl rfl ?_
  refine g_bipush (pc' := 54) (v := nI 8) C dX9_init_52 (by decide) rfl ?_
  refine g_newI (pc' := 56) (z := 8) C hA wd_arr_int (by decide) (Nat.le_of_ble_eq_true rfl) (Nat.le_of_ble_eq_true rfl) dX9_init_54 rfl (fun q_54_7 => ?_)
  show G p l e (rmv 0 16 538) s m ([.ref u0] : List Value).toArray below meth c κ 1 (JM A s) [(u0, .inr (8, [.int (nI 0), .int (nI 0), .ref q_7_1, .ref q_15_2, .int (nI 0), .ref q_22_3, .int (nI 0), .ref q_30_4, .ref q_38_5, .ref q_46_6, .null, .null, .int (nI 0), .null, .int (nI 0), .int (nI 0), .null, .null, .null, .null, .null, .int (nI 0), .null, .null])), (q_7_1, .inl (κ.2 0, 6, .inl (nA (fun _ => 0)))), (q_15_2, .inl (κ.2 0, 6, .inl (nA (fun _ => 0)))), (q_22_3, .inl (κ.2 0, 4, .inl (oA (fun _ => some 0)))), (q_30_4, .inl (κ.2 1, 8, .inl (zA (fun _ => false)))), (q_38_5, .inl (κ.2 0, 8, .inl (nA (fun _ => 0)))), (q_46_6, .inl (κ.2 0, 8, .inl (oA (fun _ => some 0)))), (q_54_7, .inl (κ.2 0, 8, .inl (nA (fun _ => 0))))] 7 48 (MQ below (QMv κ [(u0, .inr (8, [.int (nI 0), .int (nI 0), .null, .null, .int (nI 0), .null, .int (nI 0), .null, .null, .null, .null, .null, .int (nI 0), .null, .int (nI 0), .int (nI 0), .null, .null, .null, .null, .null, .int (nI 0), .null, .null]))] s.heap.size (fun (vw_ : va_W) => ∃ (u1 : Nat), ∃ (u2 : Nat), ∃ (u3 : Nat), ∃ (u4 : Nat), ∃ (u5 : Nat), ∃ (u6 : Nat), ∃ (u7 : Nat), ∃ (u8 : Nat), ∃ (u9 : Nat), ∃ (ua : Nat), ∃ (ub : Nat), ∃ (uc : Nat), ∃ (ud : Nat), ∃ (ue : Nat), ∃ (uf : Nat), ∃ (ug : Nat), vw_ = [(u0, .inr (8, [.int (nI 0), .int (nI 0), .ref u1, .ref u2, .int (nI 0), .ref u3, .int (nI 0), .ref u4, .ref u5, .ref u6, .ref u7, .ref u8, .int (nI 0), .ref u9, .int (nI 10), .int (nI 0), .ref ua, .ref ub, .ref uc, .ref ud, .ref ue, .int (nI 0), .ref uf, .ref ug])), (u1, .inl (κ.2 0, 6, .inl (nA (fun _ => 0)))), (u2, .inl (κ.2 0, 6, .inl (nA (fun _ => 0)))), (u3, .inl (κ.2 0, 4, .inl (oA (fun _ => some 0)))), (u4, .inl (κ.2 1, 8, .inl (zA (fun _ => false)))), (u5, .inl (κ.2 0, 8, .inl (nA (fun _ => 0)))), (u6, .inl (κ.2 0, 8, .inl (oA (fun _ => some 0)))), (u7, .inl (κ.2 0, 8, .inl (nA (fun _ => 0)))), (u8, .inl (κ.2 0, 32, .inl (oA (fun _ => some 0)))), (u9, .inl (κ.2 0, 6, .inl (nA (fun _ => 0)))), (ua, .inl (κ.2 0, 160, .inl (nA (fun _ => 0)))), (ub, .inl (κ.2 0, 160, .inl (nA (fun _ => 0)))), (uc, .inl (κ.2 0, 64, .inl (nA (fun _ => 0)))), (ud, .inl (κ.2 0, 6, .inl (oA (fun _ => some 0)))), (ue, .inl (κ.2 0, 6, .inl (nA (fun _ => 0)))), (uf, .inl (κ.2 0, 24, .inl (nA (fun _ => 0)))), (ug, .inl (κ.2 0, 24, .inl (nA (fun _ => 0))))])) ([.ref u0] : List Value).toArray s 16 538 A) 56 [(0, .ref u0)] [.ref q_54_7, .ref u0]
  refine g_putF (pc' := 59) (ws' := [(u0, .inr (8, [.int (nI 0), .int (nI 0), .ref q_7_1, .ref q_15_2, .int (nI 0), .ref q_22_3, .int (nI 0), .ref q_30_4, .ref q_38_5, .ref q_46_6, .ref q_54_7, .null, .int (nI 0), .null, .int (nI 0), .int (nI 0), .null, .null, .null, .null, .null, .int (nI 0), .null, .null])), (q_7_1, .inl (κ.2 0, 6, .inl (nA (fun _ => 0)))), (q_15_2, .inl (κ.2 0, 6, .inl (nA (fun _ => 0)))), (q_22_3, .inl (κ.2 0, 4, .inl (oA (fun _ => some 0)))), (q_30_4, .inl (κ.2 1, 8, .inl (zA (fun _ => false)))), (q_38_5, .inl (κ.2 0, 8, .inl (nA (fun _ => 0)))), (q_46_6, .inl (κ.2 0, 8, .inl (oA (fun _ => some 0)))), (q_54_7, .inl (κ.2 0, 8, .inl (nA (fun _ => 0))))]) C (hini rfl) fp_RX9_29_8 0 rfl rfl rfl (Nat.le_of_ble_eq_true rfl) rfl dX9_init_56 rfl ?_
  refine g_aload_n (pc' := 60) C 0 dX9_init_59 rfl rfl rfl ?_
  refine g_bipush (pc' := 62) (v := nI 32) C dX9_init_60 (by decide) rfl ?_
  refine g_newI (pc' := 64) (z := 32) C hA wd_arr_int (by decide) (Nat.le_of_ble_eq_true rfl) (Nat.le_of_ble_eq_true rfl) dX9_init_62 rfl (fun q_62_8 => ?_)
  show G p l e (rmv 0 16 538) s m ([.ref u0] : List Value).toArray below meth c κ 1 (JM A s) [(u0, .inr (8, [.int (nI 0), .int (nI 0), .ref q_7_1, .ref q_15_2, .int (nI 0), .ref q_22_3, .int (nI 0), .ref q_30_4, .ref q_38_5, .ref q_46_6, .ref q_54_7, .null, .int (nI 0), .null, .int (nI 0), .int (nI 0), .null, .null, .null, .null, .null, .int (nI 0), .null, .null])), (q_7_1, .inl (κ.2 0, 6, .inl (nA (fun _ => 0)))), (q_15_2, .inl (κ.2 0, 6, .inl (nA (fun _ => 0)))), (q_22_3, .inl (κ.2 0, 4, .inl (oA (fun _ => some 0)))), (q_30_4, .inl (κ.2 1, 8, .inl (zA (fun _ => false)))), (q_38_5, .inl (κ.2 0, 8, .inl (nA (fun _ => 0)))), (q_46_6, .inl (κ.2 0, 8, .inl (oA (fun _ => some 0)))), (q_54_7, .inl (κ.2 0, 8, .inl (nA (fun _ => 0)))), (q_62_8, .inl (κ.2 0, 32, .inl (oA (fun _ => some 0))))] 8 80 (MQ below (QMv κ [(u0, .inr (8, [.int (nI 0), .int (nI 0), .null, .null, .int (nI 0), .null, .int (nI 0), .null, .null, .null, .null, .null, .int (nI 0), .null, .int (nI 0), .int (nI 0), .null, .null, .null, .null, .null, .int (nI 0), .null, .null]))] s.heap.size (fun (vw_ : va_W) => ∃ (u1 : Nat), ∃ (u2 : Nat), ∃ (u3 : Nat), ∃ (u4 : Nat), ∃ (u5 : Nat), ∃ (u6 : Nat), ∃ (u7 : Nat), ∃ (u8 : Nat), ∃ (u9 : Nat), ∃ (ua : Nat), ∃ (ub : Nat), ∃ (uc : Nat), ∃ (ud : Nat), ∃ (ue : Nat), ∃ (uf : Nat), ∃ (ug : Nat), vw_ = [(u0, .inr (8, [.int (nI 0), .int (nI 0), .ref u1, .ref u2, .int (nI 0), .ref u3, .int (nI 0), .ref u4, .ref u5, .ref u6, .ref u7, .ref u8, .int (nI 0), .ref u9, .int (nI 10), .int (nI 0), .ref ua, .ref ub, .ref uc, .ref ud, .ref ue, .int (nI 0), .ref uf, .ref ug])), (u1, .inl (κ.2 0, 6, .inl (nA (fun _ => 0)))), (u2, .inl (κ.2 0, 6, .inl (nA (fun _ => 0)))), (u3, .inl (κ.2 0, 4, .inl (oA (fun _ => some 0)))), (u4, .inl (κ.2 1, 8, .inl (zA (fun _ => false)))), (u5, .inl (κ.2 0, 8, .inl (nA (fun _ => 0)))), (u6, .inl (κ.2 0, 8, .inl (oA (fun _ => some 0)))), (u7, .inl (κ.2 0, 8, .inl (nA (fun _ => 0)))), (u8, .inl (κ.2 0, 32, .inl (oA (fun _ => some 0)))), (u9, .inl (κ.2 0, 6, .inl (nA (fun _ => 0)))), (ua, .inl (κ.2 0, 160, .inl (nA (fun _ => 0)))), (ub, .inl (κ.2 0, 160, .inl (nA (fun _ => 0)))), (uc, .inl (κ.2 0, 64, .inl (nA (fun _ => 0)))), (ud, .inl (κ.2 0, 6, .inl (oA (fun _ => some 0)))), (ue, .inl (κ.2 0, 6, .inl (nA (fun _ => 0)))), (uf, .inl (κ.2 0, 24, .inl (nA (fun _ => 0)))), (ug, .inl (κ.2 0, 24, .inl (nA (fun _ => 0))))])) ([.ref u0] : List Value).toArray s 16 538 A) 64 [(0, .ref u0)] [.ref q_62_8, .ref u0]
  refine g_putF (pc' := 67) (ws' := [(u0, .inr (8, [.int (nI 0), .int (nI 0), .ref q_7_1, .ref q_15_2, .int (nI 0), .ref q_22_3, .int (nI 0), .ref q_30_4, .ref q_38_5, .ref q_46_6, .ref q_54_7, .ref q_62_8, .int (nI 0), .null, .int (nI 0), .int (nI 0), .null, .null, .null, .null, .null, .int (nI 0), .null, .null])), (q_7_1, .inl (κ.2 0, 6, .inl (nA (fun _ => 0)))), (q_15_2, .inl (κ.2 0, 6, .inl (nA (fun _ => 0)))), (q_22_3, .inl (κ.2 0, 4, .inl (oA (fun _ => some 0)))), (q_30_4, .inl (κ.2 1, 8, .inl (zA (fun _ => false)))), (q_38_5, .inl (κ.2 0, 8, .inl (nA (fun _ => 0)))), (q_46_6, .inl (κ.2 0, 8, .inl (oA (fun _ => some 0)))), (q_54_7, .inl (κ.2 0, 8, .inl (nA (fun _ => 0)))), (q_62_8, .inl (κ.2 0, 32, .inl (oA (fun _ => some 0))))]) C (hini rfl) fp_RX9_32_8 0 rfl rfl rfl (Nat.le_of_ble_eq_true rfl) rfl dX9_init_64 rfl ?_
  refine g_aload_n (pc' := 68) C 0 dX9_init_67 rfl rfl rfl ?_
  refine g_bipush (pc' := 70) (v := nI 6) C dX9_init_68 (by decide) rfl ?_
  refine g_newI (pc' := 72) (z := 6) C hA wd_arr_int (by decide) (Nat.le_of_ble_eq_true rfl) (Nat.le_of_ble_eq_true rfl) dX9_init_70 rfl (fun q_70_9 => ?_)
  show G p l e (rmv 0 16 538) s m ([.ref u0] : List Value).toArray below meth c κ 1 (JM A s) [(u0, .inr (8, [.int (nI 0), .int (nI 0), .ref q_7_1, .ref q_15_2, .int (nI 0), .ref q_22_3, .int (nI 0), .ref q_30_4, .ref q_38_5, .ref q_46_6, .ref q_54_7, .ref q_62_8, .int (nI 0), .null, .int (nI 0), .int (nI 0), .null, .null, .null, .null, .null, .int (nI 0), .null, .null])), (q_7_1, .inl (κ.2 0, 6, .inl (nA (fun _ => 0)))), (q_15_2, .inl (κ.2 0, 6, .inl (nA (fun _ => 0)))), (q_22_3, .inl (κ.2 0, 4, .inl (oA (fun _ => some 0)))), (q_30_4, .inl (κ.2 1, 8, .inl (zA (fun _ => false)))), (q_38_5, .inl (κ.2 0, 8, .inl (nA (fun _ => 0)))), (q_46_6, .inl (κ.2 0, 8, .inl (oA (fun _ => some 0)))), (q_54_7, .inl (κ.2 0, 8, .inl (nA (fun _ => 0)))), (q_62_8, .inl (κ.2 0, 32, .inl (oA (fun _ => some 0)))), (q_70_9, .inl (κ.2 0, 6, .inl (nA (fun _ => 0))))] 9 86 (MQ below (QMv κ [(u0, .inr (8, [.int (nI 0), .int (nI 0), .null, .null, .int (nI 0), .null, .int (nI 0), .null, .null, .null, .null, .null, .int (nI 0), .null, .int (nI 0), .int (nI 0), .null, .null, .null, .null, .null, .int (nI 0), .null, .null]))] s.heap.size (fun (vw_ : va_W) => ∃ (u1 : Nat), ∃ (u2 : Nat), ∃ (u3 : Nat), ∃ (u4 : Nat), ∃ (u5 : Nat), ∃ (u6 : Nat), ∃ (u7 : Nat), ∃ (u8 : Nat), ∃ (u9 : Nat), ∃ (ua : Nat), ∃ (ub : Nat), ∃ (uc : Nat), ∃ (ud : Nat), ∃ (ue : Nat), ∃ (uf : Nat), ∃ (ug : Nat), vw_ = [(u0, .inr (8, [.int (nI 0), .int (nI 0), .ref u1, .ref u2, .int (nI 0), .ref u3, .int (nI 0), .ref u4, .ref u5, .ref u6, .ref u7, .ref u8, .int (nI 0), .ref u9, .int (nI 10), .int (nI 0), .ref ua, .ref ub, .ref uc, .ref ud, .ref ue, .int (nI 0), .ref uf, .ref ug])), (u1, .inl (κ.2 0, 6, .inl (nA (fun _ => 0)))), (u2, .inl (κ.2 0, 6, .inl (nA (fun _ => 0)))), (u3, .inl (κ.2 0, 4, .inl (oA (fun _ => some 0)))), (u4, .inl (κ.2 1, 8, .inl (zA (fun _ => false)))), (u5, .inl (κ.2 0, 8, .inl (nA (fun _ => 0)))), (u6, .inl (κ.2 0, 8, .inl (oA (fun _ => some 0)))), (u7, .inl (κ.2 0, 8, .inl (nA (fun _ => 0)))), (u8, .inl (κ.2 0, 32, .inl (oA (fun _ => some 0)))), (u9, .inl (κ.2 0, 6, .inl (nA (fun _ => 0)))), (ua, .inl (κ.2 0, 160, .inl (nA (fun _ => 0)))), (ub, .inl (κ.2 0, 160, .inl (nA (fun _ => 0)))), (uc, .inl (κ.2 0, 64, .inl (nA (fun _ => 0)))), (ud, .inl (κ.2 0, 6, .inl (oA (fun _ => some 0)))), (ue, .inl (κ.2 0, 6, .inl (nA (fun _ => 0)))), (uf, .inl (κ.2 0, 24, .inl (nA (fun _ => 0)))), (ug, .inl (κ.2 0, 24, .inl (nA (fun _ => 0))))])) ([.ref u0] : List Value).toArray s 16 538 A) 72 [(0, .ref u0)] [.ref q_70_9, .ref u0]
  refine g_putF (pc' := 75) (ws' := [(u0, .inr (8, [.int (nI 0), .int (nI 0), .ref q_7_1, .ref q_15_2, .int (nI 0), .ref q_22_3, .int (nI 0), .ref q_30_4, .ref q_38_5, .ref q_46_6, .ref q_54_7, .ref q_62_8, .int (nI 0), .ref q_70_9, .int (nI 0), .int (nI 0), .null, .null, .null, .null, .null, .int (nI 0), .null, .null])), (q_7_1, .inl (κ.2 0, 6, .inl (nA (fun _ => 0)))), (q_15_2, .inl (κ.2 0, 6, .inl (nA (fun _ => 0)))), (q_22_3, .inl (κ.2 0, 4, .inl (oA (fun _ => some 0)))), (q_30_4, .inl (κ.2 1, 8, .inl (zA (fun _ => false)))), (q_38_5, .inl (κ.2 0, 8, .inl (nA (fun _ => 0)))), (q_46_6, .inl (κ.2 0, 8, .inl (oA (fun _ => some 0)))), (q_54_7, .inl (κ.2 0, 8, .inl (nA (fun _ => 0)))), (q_62_8, .inl (κ.2 0, 32, .inl (oA (fun _ => some 0)))), (q_70_9, .inl (κ.2 0, 6, .inl (nA (fun _ => 0))))]) C (hini rfl) fp_RX9_35_8 0 rfl rfl rfl (Nat.le_of_ble_eq_true rfl) rfl dX9_init_72 rfl ?_
  refine g_aload_n (pc' := 76) C 0 dX9_init_75 rfl rfl rfl ?_
  refine g_bipush (pc' := 78) (v := nI 10) C dX9_init_76 (by decide) rfl ?_
  refine g_put (pc' := 81) (ws' := [(u0, .inr (8, [.int (nI 0), .int (nI 0), .ref q_7_1, .ref q_15_2, .int (nI 0), .ref q_22_3, .int (nI 0), .ref q_30_4, .ref q_38_5, .ref q_46_6, .ref q_54_7, .ref q_62_8, .int (nI 0), .ref q_70_9, .int (nI 10), .int (nI 0), .null, .null, .null, .null, .null, .int (nI 0), .null, .null])), (q_7_1, .inl (κ.2 0, 6, .inl (nA (fun _ => 0)))), (q_15_2, .inl (κ.2 0, 6, .inl (nA (fun _ => 0)))), (q_22_3, .inl (κ.2 0, 4, .inl (oA (fun _ => some 0)))), (q_30_4, .inl (κ.2 1, 8, .inl (zA (fun _ => false)))), (q_38_5, .inl (κ.2 0, 8, .inl (nA (fun _ => 0)))), (q_46_6, .inl (κ.2 0, 8, .inl (oA (fun _ => some 0)))), (q_54_7, .inl (κ.2 0, 8, .inl (nA (fun _ => 0)))), (q_62_8, .inl (κ.2 0, 32, .inl (oA (fun _ => some 0)))), (q_70_9, .inl (κ.2 0, 6, .inl (nA (fun _ => 0))))]) C fp_RX9_38_8 0 rfl rfl rfl (Nat.le_of_ble_eq_true rfl) rfl dX9_init_78 rfl ?_
  refine g_aload_n (pc' := 82) C 0 dX9_init_81 rfl rfl rfl ?_
  refine g_sipush (pc' := 85) (v := nI 160) C dX9_init_82 (by decide) rfl ?_
  refine g_newI (pc' := 87) (z := 160) C hA wd_arr_int (by decide) (Nat.le_of_ble_eq_true rfl) (Nat.le_of_ble_eq_true rfl) dX9_init_85 rfl (fun q_85_10 => ?_)
  show G p l e (rmv 0 16 538) s m ([.ref u0] : List Value).toArray below meth c κ 1 (JM A s) [(u0, .inr (8, [.int (nI 0), .int (nI 0), .ref q_7_1, .ref q_15_2, .int (nI 0), .ref q_22_3, .int (nI 0), .ref q_30_4, .ref q_38_5, .ref q_46_6, .ref q_54_7, .ref q_62_8, .int (nI 0), .ref q_70_9, .int (nI 10), .int (nI 0), .null, .null, .null, .null, .null, .int (nI 0), .null, .null])), (q_7_1, .inl (κ.2 0, 6, .inl (nA (fun _ => 0)))), (q_15_2, .inl (κ.2 0, 6, .inl (nA (fun _ => 0)))), (q_22_3, .inl (κ.2 0, 4, .inl (oA (fun _ => some 0)))), (q_30_4, .inl (κ.2 1, 8, .inl (zA (fun _ => false)))), (q_38_5, .inl (κ.2 0, 8, .inl (nA (fun _ => 0)))), (q_46_6, .inl (κ.2 0, 8, .inl (oA (fun _ => some 0)))), (q_54_7, .inl (κ.2 0, 8, .inl (nA (fun _ => 0)))), (q_62_8, .inl (κ.2 0, 32, .inl (oA (fun _ => some 0)))), (q_70_9, .inl (κ.2 0, 6, .inl (nA (fun _ => 0)))), (q_85_10, .inl (κ.2 0, 160, .inl (nA (fun _ => 0))))] 10 246 (MQ below (QMv κ [(u0, .inr (8, [.int (nI 0), .int (nI 0), .null, .null, .int (nI 0), .null, .int (nI 0), .null, .null, .null, .null, .null, .int (nI 0), .null, .int (nI 0), .int (nI 0), .null, .null, .null, .null, .null, .int (nI 0), .null, .null]))] s.heap.size (fun (vw_ : va_W) => ∃ (u1 : Nat), ∃ (u2 : Nat), ∃ (u3 : Nat), ∃ (u4 : Nat), ∃ (u5 : Nat), ∃ (u6 : Nat), ∃ (u7 : Nat), ∃ (u8 : Nat), ∃ (u9 : Nat), ∃ (ua : Nat), ∃ (ub : Nat), ∃ (uc : Nat), ∃ (ud : Nat), ∃ (ue : Nat), ∃ (uf : Nat), ∃ (ug : Nat), vw_ = [(u0, .inr (8, [.int (nI 0), .int (nI 0), .ref u1, .ref u2, .int (nI 0), .ref u3, .int (nI 0), .ref u4, .ref u5, .ref u6, .ref u7, .ref u8, .int (nI 0), .ref u9, .int (nI 10), .int (nI 0), .ref ua, .ref ub, .ref uc, .ref ud, .ref ue, .int (nI 0), .ref uf, .ref ug])), (u1, .inl (κ.2 0, 6, .inl (nA (fun _ => 0)))), (u2, .inl (κ.2 0, 6, .inl (nA (fun _ => 0)))), (u3, .inl (κ.2 0, 4, .inl (oA (fun _ => some 0)))), (u4, .inl (κ.2 1, 8, .inl (zA (fun _ => false)))), (u5, .inl (κ.2 0, 8, .inl (nA (fun _ => 0)))), (u6, .inl (κ.2 0, 8, .inl (oA (fun _ => some 0)))), (u7, .inl (κ.2 0, 8, .inl (nA (fun _ => 0)))), (u8, .inl (κ.2 0, 32, .inl (oA (fun _ => some 0)))), (u9, .inl (κ.2 0, 6, .inl (nA (fun _ => 0)))), (ua, .inl (κ.2 0, 160, .inl (nA (fun _ => 0)))), (ub, .inl (κ.2 0, 160, .inl (nA (fun _ => 0)))), (uc, .inl (κ.2 0, 64, .inl (nA (fun _ => 0)))), (ud, .inl (κ.2 0, 6, .inl (oA (fun _ => some 0)))), (ue, .inl (κ.2 0, 6, .inl (nA (fun _ => 0)))), (uf, .inl (κ.2 0, 24, .inl (nA (fun _ => 0)))), (ug, .inl (κ.2 0, 24, .inl (nA (fun _ => 0))))])) ([.ref u0] : List Value).toArray s 16 538 A) 87 [(0, .ref u0)] [.ref q_85_10, .ref u0]
  refine g_putF (pc' := 90) (ws' := [(u0, .inr (8, [.int (nI 0), .int (nI 0), .ref q_7_1, .ref q_15_2, .int (nI 0), .ref q_22_3, .int (nI 0), .ref q_30_4, .ref q_38_5, .ref q_46_6, .ref q_54_7, .ref q_62_8, .int (nI 0), .ref q_70_9, .int (nI 10), .int (nI 0), .ref q_85_10, .null, .null, .null, .null, .int (nI 0), .null, .null])), (q_7_1, .inl (κ.2 0, 6, .inl (nA (fun _ => 0)))), (q_15_2, .inl (κ.2 0, 6, .inl (nA (fun _ => 0)))), (q_22_3, .inl (κ.2 0, 4, .inl (oA (fun _ => some 0)))), (q_30_4, .inl (κ.2 1, 8, .inl (zA (fun _ => false)))), (q_38_5, .inl (κ.2 0, 8, .inl (nA (fun _ => 0)))), (q_46_6, .inl (κ.2 0, 8, .inl (oA (fun _ => some 0)))), (q_54_7, .inl (κ.2 0, 8, .inl (nA (fun _ => 0)))), (q_62_8, .inl (κ.2 0, 32, .inl (oA (fun _ => some 0)))), (q_70_9, .inl (κ.2 0, 6, .inl (nA (fun _ => 0)))), (q_85_10, .inl (κ.2 0, 160, .inl (nA (fun _ => 0))))]) C (hini rfl) fp_RX9_42_8 0 rfl rfl rfl (Nat.le_of_ble_eq_true rfl) rfl dX9_init_87 rfl ?_
  refine g_aload_n (pc' := 91) C 0 dX9_init_90 rfl rfl rfl ?_
  refine g_sipush (pc' := 94) (v := nI 160) C dX9_init_91 (by decide) rfl ?_
  refine g_newI (pc' := 96) (z := 160) C hA wd_arr_int (by decide) (Nat.le_of_ble_eq_true rfl) (Nat.le_of_ble_eq_true rfl) dX9_init_94 rfl (fun q_94_11 => ?_)
  show G p l e (rmv 0 16 538) s m ([.ref u0] : List Value).toArray below meth c κ 1 (JM A s) [(u0, .inr (8, [.int (nI 0), .int (nI 0), .ref q_7_1, .ref q_15_2, .int (nI 0), .ref q_22_3, .int (nI 0), .ref q_30_4, .ref q_38_5, .ref q_46_6, .ref q_54_7, .ref q_62_8, .int (nI 0), .ref q_70_9, .int (nI 10), .int (nI 0), .ref q_85_10, .null, .null, .null, .null, .int (nI 0), .null, .null])), (q_7_1, .inl (κ.2 0, 6, .inl (nA (fun _ => 0)))), (q_15_2, .inl (κ.2 0, 6, .inl (nA (fun _ => 0)))), (q_22_3, .inl (κ.2 0, 4, .inl (oA (fun _ => some 0)))), (q_30_4, .inl (κ.2 1, 8, .inl (zA (fun _ => false)))), (q_38_5, .inl (κ.2 0, 8, .inl (nA (fun _ => 0)))), (q_46_6, .inl (κ.2 0, 8, .inl (oA (fun _ => some 0)))), (q_54_7, .inl (κ.2 0, 8, .inl (nA (fun _ => 0)))), (q_62_8, .inl (κ.2 0, 32, .inl (oA (fun _ => some 0)))), (q_70_9, .inl (κ.2 0, 6, .inl (nA (fun _ => 0)))), (q_85_10, .inl (κ.2 0, 160, .inl (nA (fun _ => 0)))), (q_94_11, .inl (κ.2 0, 160, .inl (nA (fun _ => 0))))] 11 406 (MQ below (QMv κ [(u0, .inr (8, [.int (nI 0), .int (nI 0), .null, .null, .int (nI 0), .null, .int (nI 0), .null, .null, .null, .null, .null, .int (nI 0), .null, .int (nI 0), .int (nI 0), .null, .null, .null, .null, .null, .int (nI 0), .null, .null]))] s.heap.size (fun (vw_ : va_W) => ∃ (u1 : Nat), ∃ (u2 : Nat), ∃ (u3 : Nat), ∃ (u4 : Nat), ∃ (u5 : Nat), ∃ (u6 : Nat), ∃ (u7 : Nat), ∃ (u8 : Nat), ∃ (u9 : Nat), ∃ (ua : Nat), ∃ (ub : Nat), ∃ (uc : Nat), ∃ (ud : Nat), ∃ (ue : Nat), ∃ (uf : Nat), ∃ (ug : Nat), vw_ = [(u0, .inr (8, [.int (nI 0), .int (nI 0), .ref u1, .ref u2, .int (nI 0), .ref u3, .int (nI 0), .ref u4, .ref u5, .ref u6, .ref u7, .ref u8, .int (nI 0), .ref u9, .int (nI 10), .int (nI 0), .ref ua, .ref ub, .ref uc, .ref ud, .ref ue, .int (nI 0), .ref uf, .ref ug])), (u1, .inl (κ.2 0, 6, .inl (nA (fun _ => 0)))), (u2, .inl (κ.2 0, 6, .inl (nA (fun _ => 0)))), (u3, .inl (κ.2 0, 4, .inl (oA (fun _ => some 0)))), (u4, .inl (κ.2 1, 8, .inl (zA (fun _ => false)))), (u5, .inl (κ.2 0, 8, .inl (nA (fun _ => 0)))), (u6, .inl (κ.2 0, 8, .inl (oA (fun _ => some 0)))), (u7, .inl (κ.2 0, 8, .inl (nA (fun _ => 0)))), (u8, .inl (κ.2 0, 32, .inl (oA (fun _ => some 0)))), (u9, .inl (κ.2 0, 6, .inl (nA (fun _ => 0)))), (ua, .inl (κ.2 0, 160, .inl (nA (fun _ => 0)))), (ub, .inl (κ.2 0, 160, .inl (nA (fun _ => 0)))), (uc, .inl (κ.2 0, 64, .inl (nA (fun _ => 0)))), (ud, .inl (κ.2 0, 6, .inl (oA (fun _ => some 0)))), (ue, .inl (κ.2 0, 6, .inl (nA (fun _ => 0)))), (uf, .inl (κ.2 0, 24, .inl (nA (fun _ => 0)))), (ug, .inl (κ.2 0, 24, .inl (nA (fun _ => 0))))])) ([.ref u0] : List Value).toArray s 16 538 A) 96 [(0, .ref u0)] [.ref q_94_11, .ref u0]
  refine g_putF (pc' := 99) (ws' := [(u0, .inr (8, [.int (nI 0), .int (nI 0), .ref q_7_1, .ref q_15_2, .int (nI 0), .ref q_22_3, .int (nI 0), .ref q_30_4, .ref q_38_5, .ref q_46_6, .ref q_54_7, .ref q_62_8, .int (nI 0), .ref q_70_9, .int (nI 10), .int (nI 0), .ref q_85_10, .ref q_94_11, .null, .null, .null, .int (nI 0), .null, .null])), (q_7_1, .inl (κ.2 0, 6, .inl (nA (fun _ => 0)))), (q_15_2, .inl (κ.2 0, 6, .inl (nA (fun _ => 0)))), (q_22_3, .inl (κ.2 0, 4, .inl (oA (fun _ => some 0)))), (q_30_4, .inl (κ.2 1, 8, .inl (zA (fun _ => false)))), (q_38_5, .inl (κ.2 0, 8, .inl (nA (fun _ => 0)))), (q_46_6, .inl (κ.2 0, 8, .inl (oA (fun _ => some 0)))), (q_54_7, .inl (κ.2 0, 8, .inl (nA (fun _ => 0)))), (q_62_8, .inl (κ.2 0, 32, .inl (oA (fun _ => some 0)))), (q_70_9, .inl (κ.2 0, 6, .inl (nA (fun _ => 0)))), (q_85_10, .inl (κ.2 0, 160, .inl (nA (fun _ => 0)))), (q_94_11, .inl (κ.2 0, 160, .inl (nA (fun _ => 0))))]) C (hini rfl) fp_RX9_45_8 0 rfl rfl rfl (Nat.le_of_ble_eq_true rfl) rfl dX9_init_96 rfl ?_
  refine g_aload_n (pc' := 100) C 0 dX9_init_99 rfl rfl rfl ?_
  refine g_bipush (pc' := 102) (v := nI 64) C dX9_init_100 (by decide) rfl ?_
  refine g_newI (pc' := 104) (z := 64) C hA wd_arr_int (by decide) (Nat.le_of_ble_eq_true rfl) (Nat.le_of_ble_eq_true rfl) dX9_init_102 rfl (fun q_102_12 => ?_)
  show G p l e (rmv 0 16 538) s m ([.ref u0] : List Value).toArray below meth c κ 1 (JM A s) [(u0, .inr (8, [.int (nI 0), .int (nI 0), .ref q_7_1, .ref q_15_2, .int (nI 0), .ref q_22_3, .int (nI 0), .ref q_30_4, .ref q_38_5, .ref q_46_6, .ref q_54_7, .ref q_62_8, .int (nI 0), .ref q_70_9, .int (nI 10), .int (nI 0), .ref q_85_10, .ref q_94_11, .null, .null, .null, .int (nI 0), .null, .null])), (q_7_1, .inl (κ.2 0, 6, .inl (nA (fun _ => 0)))), (q_15_2, .inl (κ.2 0, 6, .inl (nA (fun _ => 0)))), (q_22_3, .inl (κ.2 0, 4, .inl (oA (fun _ => some 0)))), (q_30_4, .inl (κ.2 1, 8, .inl (zA (fun _ => false)))), (q_38_5, .inl (κ.2 0, 8, .inl (nA (fun _ => 0)))), (q_46_6, .inl (κ.2 0, 8, .inl (oA (fun _ => some 0)))), (q_54_7, .inl (κ.2 0, 8, .inl (nA (fun _ => 0)))), (q_62_8, .inl (κ.2 0, 32, .inl (oA (fun _ => some 0)))), (q_70_9, .inl (κ.2 0, 6, .inl (nA (fun _ => 0)))), (q_85_10, .inl (κ.2 0, 160, .inl (nA (fun _ => 0)))), (q_94_11, .inl (κ.2 0, 160, .inl (nA (fun _ => 0)))), (q_102_12, .inl (κ.2 0, 64, .inl (nA (fun _ => 0))))] 12 470 (MQ below (QMv κ [(u0, .inr (8, [.int (nI 0), .int (nI 0), .null, .null, .int (nI 0), .null, .int (nI 0), .null, .null, .null, .null, .null, .int (nI 0), .null, .int (nI 0), .int (nI 0), .null, .null, .null, .null, .null, .int (nI 0), .null, .null]))] s.heap.size (fun (vw_ : va_W) => ∃ (u1 : Nat), ∃ (u2 : Nat), ∃ (u3 : Nat), ∃ (u4 : Nat), ∃ (u5 : Nat), ∃ (u6 : Nat), ∃ (u7 : Nat), ∃ (u8 : Nat), ∃ (u9 : Nat), ∃ (ua : Nat), ∃ (ub : Nat), ∃ (uc : Nat), ∃ (ud : Nat), ∃ (ue : Nat), ∃ (uf : Nat), ∃ (ug : Nat), vw_ = [(u0, .inr (8, [.int (nI 0), .int (nI 0), .ref u1, .ref u2, .int (nI 0), .ref u3, .int (nI 0), .ref u4, .ref u5, .ref u6, .ref u7, .ref u8, .int (nI 0), .ref u9, .int (nI 10), .int (nI 0), .ref ua, .ref ub, .ref uc, .ref ud, .ref ue, .int (nI 0), .ref uf, .ref ug])), (u1, .inl (κ.2 0, 6, .inl (nA (fun _ => 0)))), (u2, .inl (κ.2 0, 6, .inl (nA (fun _ => 0)))), (u3, .inl (κ.2 0, 4, .inl (oA (fun _ => some 0)))), (u4, .inl (κ.2 1, 8, .inl (zA (fun _ => false)))), (u5, .inl (κ.2 0, 8, .inl (nA (fun _ => 0)))), (u6, .inl (κ.2 0, 8, .inl (oA (fun _ => some 0)))), (u7, .inl (κ.2 0, 8, .inl (nA (fun _ => 0)))), (u8, .inl (κ.2 0, 32, .inl (oA (fun _ => some 0)))), (u9, .inl (κ.2 0, 6, .inl (nA (fun _ => 0)))), (ua, .inl (κ.2 0, 160, .inl (nA (fun _ => 0)))), (ub, .inl (κ.2 0, 160, .inl (nA (fun _ => 0)))), (uc, .inl (κ.2 0, 64, .inl (nA (fun _ => 0)))), (ud, .inl (κ.2 0, 6, .inl (oA (fun _ => some 0)))), (ue, .inl (κ.2 0, 6, .inl (nA (fun _ => 0)))), (uf, .inl (κ.2 0, 24, .inl (nA (fun _ => 0)))), (ug, .inl (κ.2 0, 24, .inl (nA (fun _ => 0))))])) ([.ref u0] : List Value).toArray s 16 538 A) 104 [(0, .ref u0)] [.ref q_102_12, .ref u0]
  refine g_putF (pc' := 107) (ws' := [(u0, .inr (8, [.int (nI 0), .int (nI 0), .ref q_7_1, .ref q_15_2, .int (nI 0), .ref q_22_3, .int (nI 0), .ref q_30_4, .ref q_38_5, .ref q_46_6, .ref q_54_7, .ref q_62_8, .int (nI 0), .ref q_70_9, .int (nI 10), .int (nI 0), .ref q_85_10, .ref q_94_11, .ref q_102_12, .null, .null, .int (nI 0), .null, .null])), (q_7_1, .inl (κ.2 0, 6, .inl (nA (fun _ => 0)))), (q_15_2, .inl (κ.2 0, 6, .inl (nA (fun _ => 0)))), (q_22_3, .inl (κ.2 0, 4, .inl (oA (fun _ => some 0)))), (q_30_4, .inl (κ.2 1, 8, .inl (zA (fun _ => false)))), (q_38_5, .inl (κ.2 0, 8, .inl (nA (fun _ => 0)))), (q_46_6, .inl (κ.2 0, 8, .inl (oA (fun _ => some 0)))), (q_54_7, .inl (κ.2 0, 8, .inl (nA (fun _ => 0)))), (q_62_8, .inl (κ.2 0, 32, .inl (oA (fun _ => some 0)))), (q_70_9, .inl (κ.2 0, 6, .inl (nA (fun _ => 0)))), (q_85_10, .inl (κ.2 0, 160, .inl (nA (fun _ => 0)))), (q_94_11, .inl (κ.2 0, 160, .inl (nA (fun _ => 0)))), (q_102_12, .inl (κ.2 0, 64, .inl (nA (fun _ => 0))))]) C (hini rfl) fp_RX9_48_8 0 rfl rfl rfl (Nat.le_of_ble_eq_true rfl) rfl dX9_init_104 rfl ?_
  refine g_aload_n (pc' := 108) C 0 dX9_init_107 rfl rfl rfl ?_
  refine g_bipush (pc' := 110) (v := nI 6) C dX9_init_108 (by decide) rfl ?_
  refine g_newI (pc' := 112) (z := 6) C hA wd_arr_int (by decide) (Nat.le_of_ble_eq_true rfl) (Nat.le_of_ble_eq_true rfl) dX9_init_110 rfl (fun q_110_13 => ?_)
  show G p l e (rmv 0 16 538) s m ([.ref u0] : List Value).toArray below meth c κ 1 (JM A s) [(u0, .inr (8, [.int (nI 0), .int (nI 0), .ref q_7_1, .ref q_15_2, .int (nI 0), .ref q_22_3, .int (nI 0), .ref q_30_4, .ref q_38_5, .ref q_46_6, .ref q_54_7, .ref q_62_8, .int (nI 0), .ref q_70_9, .int (nI 10), .int (nI 0), .ref q_85_10, .ref q_94_11, .ref q_102_12, .null, .null, .int (nI 0), .null, .null])), (q_7_1, .inl (κ.2 0, 6, .inl (nA (fun _ => 0)))), (q_15_2, .inl (κ.2 0, 6, .inl (nA (fun _ => 0)))), (q_22_3, .inl (κ.2 0, 4, .inl (oA (fun _ => some 0)))), (q_30_4, .inl (κ.2 1, 8, .inl (zA (fun _ => false)))), (q_38_5, .inl (κ.2 0, 8, .inl (nA (fun _ => 0)))), (q_46_6, .inl (κ.2 0, 8, .inl (oA (fun _ => some 0)))), (q_54_7, .inl (κ.2 0, 8, .inl (nA (fun _ => 0)))), (q_62_8, .inl (κ.2 0, 32, .inl (oA (fun _ => some 0)))), (q_70_9, .inl (κ.2 0, 6, .inl (nA (fun _ => 0)))), (q_85_10, .inl (κ.2 0, 160, .inl (nA (fun _ => 0)))), (q_94_11, .inl (κ.2 0, 160, .inl (nA (fun _ => 0)))), (q_102_12, .inl (κ.2 0, 64, .inl (nA (fun _ => 0)))), (q_110_13, .inl (κ.2 0, 6, .inl (oA (fun _ => some 0))))] 13 476 (MQ below (QMv κ [(u0, .inr (8, [.int (nI 0), .int (nI 0), .null, .null, .int (nI 0), .null, .int (nI 0), .null, .null, .null, .null, .null, .int (nI 0), .null, .int (nI 0), .int (nI 0), .null, .null, .null, .null, .null, .int (nI 0), .null, .null]))] s.heap.size (fun (vw_ : va_W) => ∃ (u1 : Nat), ∃ (u2 : Nat), ∃ (u3 : Nat), ∃ (u4 : Nat), ∃ (u5 : Nat), ∃ (u6 : Nat), ∃ (u7 : Nat), ∃ (u8 : Nat), ∃ (u9 : Nat), ∃ (ua : Nat), ∃ (ub : Nat), ∃ (uc : Nat), ∃ (ud : Nat), ∃ (ue : Nat), ∃ (uf : Nat), ∃ (ug : Nat), vw_ = [(u0, .inr (8, [.int (nI 0), .int (nI 0), .ref u1, .ref u2, .int (nI 0), .ref u3, .int (nI 0), .ref u4, .ref u5, .ref u6, .ref u7, .ref u8, .int (nI 0), .ref u9, .int (nI 10), .int (nI 0), .ref ua, .ref ub, .ref uc, .ref ud, .ref ue, .int (nI 0), .ref uf, .ref ug])), (u1, .inl (κ.2 0, 6, .inl (nA (fun _ => 0)))), (u2, .inl (κ.2 0, 6, .inl (nA (fun _ => 0)))), (u3, .inl (κ.2 0, 4, .inl (oA (fun _ => some 0)))), (u4, .inl (κ.2 1, 8, .inl (zA (fun _ => false)))), (u5, .inl (κ.2 0, 8, .inl (nA (fun _ => 0)))), (u6, .inl (κ.2 0, 8, .inl (oA (fun _ => some 0)))), (u7, .inl (κ.2 0, 8, .inl (nA (fun _ => 0)))), (u8, .inl (κ.2 0, 32, .inl (oA (fun _ => some 0)))), (u9, .inl (κ.2 0, 6, .inl (nA (fun _ => 0)))), (ua, .inl (κ.2 0, 160, .inl (nA (fun _ => 0)))), (ub, .inl (κ.2 0, 160, .inl (nA (fun _ => 0)))), (uc, .inl (κ.2 0, 64, .inl (nA (fun _ => 0)))), (ud, .inl (κ.2 0, 6, .inl (oA (fun _ => some 0)))), (ue, .inl (κ.2 0, 6, .inl (nA (fun _ => 0)))), (uf, .inl (κ.2 0, 24, .inl (nA (fun _ => 0)))), (ug, .inl (κ.2 0, 24, .inl (nA (fun _ => 0))))])) ([.ref u0] : List Value).toArray s 16 538 A) 112 [(0, .ref u0)] [.ref q_110_13, .ref u0]
  refine g_putF (pc' := 115) (ws' := [(u0, .inr (8, [.int (nI 0), .int (nI 0), .ref q_7_1, .ref q_15_2, .int (nI 0), .ref q_22_3, .int (nI 0), .ref q_30_4, .ref q_38_5, .ref q_46_6, .ref q_54_7, .ref q_62_8, .int (nI 0), .ref q_70_9, .int (nI 10), .int (nI 0), .ref q_85_10, .ref q_94_11, .ref q_102_12, .ref q_110_13, .null, .int (nI 0), .null, .null])), (q_7_1, .inl (κ.2 0, 6, .inl (nA (fun _ => 0)))), (q_15_2, .inl (κ.2 0, 6, .inl (nA (fun _ => 0)))), (q_22_3, .inl (κ.2 0, 4, .inl (oA (fun _ => some 0)))), (q_30_4, .inl (κ.2 1, 8, .inl (zA (fun _ => false)))), (q_38_5, .inl (κ.2 0, 8, .inl (nA (fun _ => 0)))), (q_46_6, .inl (κ.2 0, 8, .inl (oA (fun _ => some 0)))), (q_54_7, .inl (κ.2 0, 8, .inl (nA (fun _ => 0)))), (q_62_8, .inl (κ.2 0, 32, .inl (oA (fun _ => some 0)))), (q_70_9, .inl (κ.2 0, 6, .inl (nA (fun _ => 0)))), (q_85_10, .inl (κ.2 0, 160, .inl (nA (fun _ => 0)))), (q_94_11, .inl (κ.2 0, 160, .inl (nA (fun _ => 0)))), (q_102_12, .inl (κ.2 0, 64, .inl (nA (fun _ => 0)))), (q_110_13, .inl (κ.2 0, 6, .inl (oA (fun _ => some 0))))]) C (hini rfl) fp_RX9_51_8 0 rfl rfl rfl (Nat.le_of_ble_eq_true rfl) rfl dX9_init_112 rfl ?_
  refine g_aload_n (pc' := 116) C 0 dX9_init_115 rfl rfl rfl ?_
  refine g_bipush (pc' := 118) (v := nI 6) C dX9_init_116 (by decide) rfl ?_
  refine g_newI (pc' := 120) (z := 6) C hA wd_arr_int (by decide) (Nat.le_of_ble_eq_true rfl) (Nat.le_of_ble_eq_true rfl) dX9_init_118 rfl (fun q_118_14 => ?_)
  show G p l e (rmv 0 16 538) s m ([.ref u0] : List Value).toArray below meth c κ 1 (JM A s) [(u0, .inr (8, [.int (nI 0), .int (nI 0), .ref q_7_1, .ref q_15_2, .int (nI 0), .ref q_22_3, .int (nI 0), .ref q_30_4, .ref q_38_5, .ref q_46_6, .ref q_54_7, .ref q_62_8, .int (nI 0), .ref q_70_9, .int (nI 10), .int (nI 0), .ref q_85_10, .ref q_94_11, .ref q_102_12, .ref q_110_13, .null, .int (nI 0), .null, .null])), (q_7_1, .inl (κ.2 0, 6, .inl (nA (fun _ => 0)))), (q_15_2, .inl (κ.2 0, 6, .inl (nA (fun _ => 0)))), (q_22_3, .inl (κ.2 0, 4, .inl (oA (fun _ => some 0)))), (q_30_4, .inl (κ.2 1, 8, .inl (zA (fun _ => false)))), (q_38_5, .inl (κ.2 0, 8, .inl (nA (fun _ => 0)))), (q_46_6, .inl (κ.2 0, 8, .inl (oA (fun _ => some 0)))), (q_54_7, .inl (κ.2 0, 8, .inl (nA (fun _ => 0)))), (q_62_8, .inl (κ.2 0, 32, .inl (oA (fun _ => some 0)))), (q_70_9, .inl (κ.2 0, 6, .inl (nA (fun _ => 0)))), (q_85_10, .inl (κ.2 0, 160, .inl (nA (fun _ => 0)))), (q_94_11, .inl (κ.2 0, 160, .inl (nA (fun _ => 0)))), (q_102_12, .inl (κ.2 0, 64, .inl (nA (fun _ => 0)))), (q_110_13, .inl (κ.2 0, 6, .inl (oA (fun _ => some 0)))), (q_118_14, .inl (κ.2 0, 6, .inl (nA (fun _ => 0))))] 14 482 (MQ below (QMv κ [(u0, .inr (8, [.int (nI 0), .int (nI 0), .null, .null, .int (nI 0), .null, .int (nI 0), .null, .null, .null, .null, .null, .int (nI 0), .null, .int (nI 0), .int (nI 0), .null, .null, .null, .null, .null, .int (nI 0), .null, .null]))] s.heap.size (fun (vw_ : va_W) => ∃ (u1 : Nat), ∃ (u2 : Nat), ∃ (u3 : Nat), ∃ (u4 : Nat), ∃ (u5 : Nat), ∃ (u6 : Nat), ∃ (u7 : Nat), ∃ (u8 : Nat), ∃ (u9 : Nat), ∃ (ua : Nat), ∃ (ub : Nat), ∃ (uc : Nat), ∃ (ud : Nat), ∃ (ue : Nat), ∃ (uf : Nat), ∃ (ug : Nat), vw_ = [(u0, .inr (8, [.int (nI 0), .int (nI 0), .ref u1, .ref u2, .int (nI 0), .ref u3, .int (nI 0), .ref u4, .ref u5, .ref u6, .ref u7, .ref u8, .int (nI 0), .ref u9, .int (nI 10), .int (nI 0), .ref ua, .ref ub, .ref uc, .ref ud, .ref ue, .int (nI 0), .ref uf, .ref ug])), (u1, .inl (κ.2 0, 6, .inl (nA (fun _ => 0)))), (u2, .inl (κ.2 0, 6, .inl (nA (fun _ => 0)))), (u3, .inl (κ.2 0, 4, .inl (oA (fun _ => some 0)))), (u4, .inl (κ.2 1, 8, .inl (zA (fun _ => false)))), (u5, .inl (κ.2 0, 8, .inl (nA (fun _ => 0)))), (u6, .inl (κ.2 0, 8, .inl (oA (fun _ => some 0)))), (u7, .inl (κ.2 0, 8, .inl (nA (fun _ => 0)))), (u8, .inl (κ.2 0, 32, .inl (oA (fun _ => some 0)))), (u9, .inl (κ.2 0, 6, .inl (nA (fun _ => 0)))), (ua, .inl (κ.2 0, 160, .inl (nA (fun _ => 0)))), (ub, .inl (κ.2 0, 160, .inl (nA (fun _ => 0)))), (uc, .inl (κ.2 0, 64, .inl (nA (fun _ => 0)))), (ud, .inl (κ.2 0, 6, .inl (oA (fun _ => some 0)))), (ue, .inl (κ.2 0, 6, .inl (nA (fun _ => 0)))), (uf, .inl (κ.2 0, 24, .inl (nA (fun _ => 0)))), (ug, .inl (κ.2 0, 24, .inl (nA (fun _ => 0))))])) ([.ref u0] : List Value).toArray s 16 538 A) 120 [(0, .ref u0)] [.ref q_118_14, .ref u0]
  refine g_putF (pc' := 123) (ws' := [(u0, .inr (8, [.int (nI 0), .int (nI 0), .ref q_7_1, .ref q_15_2, .int (nI 0), .ref q_22_3, .int (nI 0), .ref q_30_4, .ref q_38_5, .ref q_46_6, .ref q_54_7, .ref q_62_8, .int (nI 0), .ref q_70_9, .int (nI 10), .int (nI 0), .ref q_85_10, .ref q_94_11, .ref q_102_12, .ref q_110_13, .ref q_118_14, .int (nI 0), .null, .null])), (q_7_1, .inl (κ.2 0, 6, .inl (nA (fun _ => 0)))), (q_15_2, .inl (κ.2 0, 6, .inl (nA (fun _ => 0)))), (q_22_3, .inl (κ.2 0, 4, .inl (oA (fun _ => some 0)))), (q_30_4, .inl (κ.2 1, 8, .inl (zA (fun _ => false)))), (q_38_5, .inl (κ.2 0, 8, .inl (nA (fun _ => 0)))), (q_46_6, .inl (κ.2 0, 8, .inl (oA (fun _ => some 0)))), (q_54_7, .inl (κ.2 0, 8, .inl (nA (fun _ => 0)))), (q_62_8, .inl (κ.2 0, 32, .inl (oA (fun _ => some 0)))), (q_70_9, .inl (κ.2 0, 6, .inl (nA (fun _ => 0)))), (q_85_10, .inl (κ.2 0, 160, .inl (nA (fun _ => 0)))), (q_94_11, .inl (κ.2 0, 160, .inl (nA (fun _ => 0)))), (q_102_12, .inl (κ.2 0, 64, .inl (nA (fun _ => 0)))), (q_110_13, .inl (κ.2 0, 6, .inl (oA (fun _ => some 0)))), (q_118_14, .inl (κ.2 0, 6, .inl (nA (fun _ => 0))))]) C (hini rfl) fp_RX9_54_8 0 rfl rfl rfl (Nat.le_of_ble_eq_true rfl) rfl dX9_init_120 rfl ?_
  refine g_aload_n (pc' := 124) C 0 dX9_init_123 rfl rfl rfl ?_
  refine g_bipush (pc' := 126) (v := nI 24) C dX9_init_124 (by decide) rfl ?_
  refine g_newI (pc' := 128) (z := 24) C hA wd_arr_int (by decide) (Nat.le_of_ble_eq_true rfl) (Nat.le_of_ble_eq_true rfl) dX9_init_126 rfl (fun q_126_15 => ?_)
  show G p l e (rmv 0 16 538) s m ([.ref u0] : List Value).toArray below meth c κ 1 (JM A s) [(u0, .inr (8, [.int (nI 0), .int (nI 0), .ref q_7_1, .ref q_15_2, .int (nI 0), .ref q_22_3, .int (nI 0), .ref q_30_4, .ref q_38_5, .ref q_46_6, .ref q_54_7, .ref q_62_8, .int (nI 0), .ref q_70_9, .int (nI 10), .int (nI 0), .ref q_85_10, .ref q_94_11, .ref q_102_12, .ref q_110_13, .ref q_118_14, .int (nI 0), .null, .null])), (q_7_1, .inl (κ.2 0, 6, .inl (nA (fun _ => 0)))), (q_15_2, .inl (κ.2 0, 6, .inl (nA (fun _ => 0)))), (q_22_3, .inl (κ.2 0, 4, .inl (oA (fun _ => some 0)))), (q_30_4, .inl (κ.2 1, 8, .inl (zA (fun _ => false)))), (q_38_5, .inl (κ.2 0, 8, .inl (nA (fun _ => 0)))), (q_46_6, .inl (κ.2 0, 8, .inl (oA (fun _ => some 0)))), (q_54_7, .inl (κ.2 0, 8, .inl (nA (fun _ => 0)))), (q_62_8, .inl (κ.2 0, 32, .inl (oA (fun _ => some 0)))), (q_70_9, .inl (κ.2 0, 6, .inl (nA (fun _ => 0)))), (q_85_10, .inl (κ.2 0, 160, .inl (nA (fun _ => 0)))), (q_94_11, .inl (κ.2 0, 160, .inl (nA (fun _ => 0)))), (q_102_12, .inl (κ.2 0, 64, .inl (nA (fun _ => 0)))), (q_110_13, .inl (κ.2 0, 6, .inl (oA (fun _ => some 0)))), (q_118_14, .inl (κ.2 0, 6, .inl (nA (fun _ => 0)))), (q_126_15, .inl (κ.2 0, 24, .inl (nA (fun _ => 0))))] 15 506 (MQ below (QMv κ [(u0, .inr (8, [.int (nI 0), .int (nI 0), .null, .null, .int (nI 0), .null, .int (nI 0), .null, .null, .null, .null, .null, .int (nI 0), .null, .int (nI 0), .int (nI 0), .null, .null, .null, .null, .null, .int (nI 0), .null, .null]))] s.heap.size (fun (vw_ : va_W) => ∃ (u1 : Nat), ∃ (u2 : Nat), ∃ (u3 : Nat), ∃ (u4 : Nat), ∃ (u5 : Nat), ∃ (u6 : Nat), ∃ (u7 : Nat), ∃ (u8 : Nat), ∃ (u9 : Nat), ∃ (ua : Nat), ∃ (ub : Nat), ∃ (uc : Nat), ∃ (ud : Nat), ∃ (ue : Nat), ∃ (uf : Nat), ∃ (ug : Nat), vw_ = [(u0, .inr (8, [.int (nI 0), .int (nI 0), .ref u1, .ref u2, .int (nI 0), .ref u3, .int (nI 0), .ref u4, .ref u5, .ref u6, .ref u7, .ref u8, .int (nI 0), .ref u9, .int (nI 10), .int (nI 0), .ref ua, .ref ub, .ref uc, .ref ud, .ref ue, .int (nI 0), .ref uf, .ref ug])), (u1, .inl (κ.2 0, 6, .inl (nA (fun _ => 0)))), (u2, .inl (κ.2 0, 6, .inl (nA (fun _ => 0)))), (u3, .inl (κ.2 0, 4, .inl (oA (fun _ => some 0)))), (u4, .inl (κ.2 1, 8, .inl (zA (fun _ => false)))), (u5, .inl (κ.2 0, 8, .inl (nA (fun _ => 0)))), (u6, .inl (κ.2 0, 8, .inl (oA (fun _ => some 0)))), (u7, .inl (κ.2 0, 8, .inl (nA (fun _ => 0)))), (u8, .inl (κ.2 0, 32, .inl (oA (fun _ => some 0)))), (u9, .inl (κ.2 0, 6, .inl (nA (fun _ => 0)))), (ua, .inl (κ.2 0, 160, .inl (nA (fun _ => 0)))), (ub, .inl (κ.2 0, 160, .inl (nA (fun _ => 0)))), (uc, .inl (κ.2 0, 64, .inl (nA (fun _ => 0)))), (ud, .inl (κ.2 0, 6, .inl (oA (fun _ => some 0)))), (ue, .inl (κ.2 0, 6, .inl (nA (fun _ => 0)))), (uf, .inl (κ.2 0, 24, .inl (nA (fun _ => 0)))), (ug, .inl (κ.2 0, 24, .inl (nA (fun _ => 0))))])) ([.ref u0] : List Value).toArray s 16 538 A) 128 [(0, .ref u0)] [.ref q_126_15, .ref u0]
  refine g_putF (pc' := 131) (ws' := [(u0, .inr (8, [.int (nI 0), .int (nI 0), .ref q_7_1, .ref q_15_2, .int (nI 0), .ref q_22_3, .int (nI 0), .ref q_30_4, .ref q_38_5, .ref q_46_6, .ref q_54_7, .ref q_62_8, .int (nI 0), .ref q_70_9, .int (nI 10), .int (nI 0), .ref q_85_10, .ref q_94_11, .ref q_102_12, .ref q_110_13, .ref q_118_14, .int (nI 0), .ref q_126_15, .null])), (q_7_1, .inl (κ.2 0, 6, .inl (nA (fun _ => 0)))), (q_15_2, .inl (κ.2 0, 6, .inl (nA (fun _ => 0)))), (q_22_3, .inl (κ.2 0, 4, .inl (oA (fun _ => some 0)))), (q_30_4, .inl (κ.2 1, 8, .inl (zA (fun _ => false)))), (q_38_5, .inl (κ.2 0, 8, .inl (nA (fun _ => 0)))), (q_46_6, .inl (κ.2 0, 8, .inl (oA (fun _ => some 0)))), (q_54_7, .inl (κ.2 0, 8, .inl (nA (fun _ => 0)))), (q_62_8, .inl (κ.2 0, 32, .inl (oA (fun _ => some 0)))), (q_70_9, .inl (κ.2 0, 6, .inl (nA (fun _ => 0)))), (q_85_10, .inl (κ.2 0, 160, .inl (nA (fun _ => 0)))), (q_94_11, .inl (κ.2 0, 160, .inl (nA (fun _ => 0)))), (q_102_12, .inl (κ.2 0, 64, .inl (nA (fun _ => 0)))), (q_110_13, .inl (κ.2 0, 6, .inl (oA (fun _ => some 0)))), (q_118_14, .inl (κ.2 0, 6, .inl (nA (fun _ => 0)))), (q_126_15, .inl (κ.2 0, 24, .inl (nA (fun _ => 0))))]) C (hini rfl) fp_RX9_57_8 0 rfl rfl rfl (Nat.le_of_ble_eq_true rfl) rfl dX9_init_128 rfl ?_
  refine g_aload_n (pc' := 132) C 0 dX9_init_131 rfl rfl rfl ?_
  refine g_bipush (pc' := 134) (v := nI 24) C dX9_init_132 (by decide) rfl ?_
  refine g_newI (pc' := 136) (z := 24) C hA wd_arr_int (by decide) (Nat.le_of_ble_eq_true rfl) (Nat.le_of_ble_eq_true rfl) dX9_init_134 rfl (fun q_134_16 => ?_)
  show G p l e (rmv 0 16 538) s m ([.ref u0] : List Value).toArray below meth c κ 1 (JM A s) [(u0, .inr (8, [.int (nI 0), .int (nI 0), .ref q_7_1, .ref q_15_2, .int (nI 0), .ref q_22_3, .int (nI 0), .ref q_30_4, .ref q_38_5, .ref q_46_6, .ref q_54_7, .ref q_62_8, .int (nI 0), .ref q_70_9, .int (nI 10), .int (nI 0), .ref q_85_10, .ref q_94_11, .ref q_102_12, .ref q_110_13, .ref q_118_14, .int (nI 0), .ref q_126_15, .null])), (q_7_1, .inl (κ.2 0, 6, .inl (nA (fun _ => 0)))), (q_15_2, .inl (κ.2 0, 6, .inl (nA (fun _ => 0)))), (q_22_3, .inl (κ.2 0, 4, .inl (oA (fun _ => some 0)))), (q_30_4, .inl (κ.2 1, 8, .inl (zA (fun _ => false)))), (q_38_5, .inl (κ.2 0, 8, .inl (nA (fun _ => 0)))), (q_46_6, .inl (κ.2 0, 8, .inl (oA (fun _ => some 0)))), (q_54_7, .inl (κ.2 0, 8, .inl (nA (fun _ => 0)))), (q_62_8, .inl (κ.2 0, 32, .inl (oA (fun _ => some 0)))), (q_70_9, .inl (κ.2 0, 6, .inl (nA (fun _ => 0)))), (q_85_10, .inl (κ.2 0, 160, .inl (nA (fun _ => 0)))), (q_94_11, .inl (κ.2 0, 160, .inl (nA (fun _ => 0)))), (q_102_12, .inl (κ.2 0, 64, .inl (nA (fun _ => 0)))), (q_110_13, .inl (κ.2 0, 6, .inl (oA (fun _ => some 0)))), (q_118_14, .inl (κ.2 0, 6, .inl (nA (fun _ => 0)))), (q_126_15, .inl (κ.2 0, 24, .inl (nA (fun _ => 0)))), (q_134_16, .inl (κ.2 0, 24, .inl (nA (fun _ => 0))))] 16 530 (MQ below (QMv κ [(u0, .inr (8, [.int (nI 0), .int (nI 0), .null, .null, .int (nI 0), .null, .int (nI 0), .null, .null, .null, .null, .null, .int (nI 0), .null, .int (nI 0), .int (nI 0), .null, .null, .null, .null, .null, .int (nI 0), .null, .null]))] s.heap.size (fun (vw_ : va_W) => ∃ (u1 : Nat), ∃ (u2 : Nat), ∃ (u3 : Nat), ∃ (u4 : Nat), ∃ (u5 : Nat), ∃ (u6 : Nat), ∃ (u7 : Nat), ∃ (u8 : Nat), ∃ (u9 : Nat), ∃ (ua : Nat), ∃ (ub : Nat), ∃ (uc : Nat), ∃ (ud : Nat), ∃ (ue : Nat), ∃ (uf : Nat), ∃ (ug : Nat), vw_ = [(u0, .inr (8, [.int (nI 0), .int (nI 0), .ref u1, .ref u2, .int (nI 0), .ref u3, .int (nI 0), .ref u4, .ref u5, .ref u6, .ref u7, .ref u8, .int (nI 0), .ref u9, .int (nI 10), .int (nI 0), .ref ua, .ref ub, .ref uc, .ref ud, .ref ue, .int (nI 0), .ref uf, .ref ug])), (u1, .inl (κ.2 0, 6, .inl (nA (fun _ => 0)))), (u2, .inl (κ.2 0, 6, .inl (nA (fun _ => 0)))), (u3, .inl (κ.2 0, 4, .inl (oA (fun _ => some 0)))), (u4, .inl (κ.2 1, 8, .inl (zA (fun _ => false)))), (u5, .inl (κ.2 0, 8, .inl (nA (fun _ => 0)))), (u6, .inl (κ.2 0, 8, .inl (oA (fun _ => some 0)))), (u7, .inl (κ.2 0, 8, .inl (nA (fun _ => 0)))), (u8, .inl (κ.2 0, 32, .inl (oA (fun _ => some 0)))), (u9, .inl (κ.2 0, 6, .inl (nA (fun _ => 0)))), (ua, .inl (κ.2 0, 160, .inl (nA (fun _ => 0)))), (ub, .inl (κ.2 0, 160, .inl (nA (fun _ => 0)))), (uc, .inl (κ.2 0, 64, .inl (nA (fun _ => 0)))), (ud, .inl (κ.2 0, 6, .inl (oA (fun _ => some 0)))), (ue, .inl (κ.2 0, 6, .inl (nA (fun _ => 0)))), (uf, .inl (κ.2 0, 24, .inl (nA (fun _ => 0)))), (ug, .inl (κ.2 0, 24, .inl (nA (fun _ => 0))))])) ([.ref u0] : List Value).toArray s 16 538 A) 136 [(0, .ref u0)] [.ref q_134_16, .ref u0]
  refine g_putF (pc' := 139) (ws' := [(u0, .inr (8, [.int (nI 0), .int (nI 0), .ref q_7_1, .ref q_15_2, .int (nI 0), .ref q_22_3, .int (nI 0), .ref q_30_4, .ref q_38_5, .ref q_46_6, .ref q_54_7, .ref q_62_8, .int (nI 0), .ref q_70_9, .int (nI 10), .int (nI 0), .ref q_85_10, .ref q_94_11, .ref q_102_12, .ref q_110_13, .ref q_118_14, .int (nI 0), .ref q_126_15, .ref q_134_16])), (q_7_1, .inl (κ.2 0, 6, .inl (nA (fun _ => 0)))), (q_15_2, .inl (κ.2 0, 6, .inl (nA (fun _ => 0)))), (q_22_3, .inl (κ.2 0, 4, .inl (oA (fun _ => some 0)))), (q_30_4, .inl (κ.2 1, 8, .inl (zA (fun _ => false)))), (q_38_5, .inl (κ.2 0, 8, .inl (nA (fun _ => 0)))), (q_46_6, .inl (κ.2 0, 8, .inl (oA (fun _ => some 0)))), (q_54_7, .inl (κ.2 0, 8, .inl (nA (fun _ => 0)))), (q_62_8, .inl (κ.2 0, 32, .inl (oA (fun _ => some 0)))), (q_70_9, .inl (κ.2 0, 6, .inl (nA (fun _ => 0)))), (q_85_10, .inl (κ.2 0, 160, .inl (nA (fun _ => 0)))), (q_94_11, .inl (κ.2 0, 160, .inl (nA (fun _ => 0)))), (q_102_12, .inl (κ.2 0, 64, .inl (nA (fun _ => 0)))), (q_110_13, .inl (κ.2 0, 6, .inl (oA (fun _ => some 0)))), (q_118_14, .inl (κ.2 0, 6, .inl (nA (fun _ => 0)))), (q_126_15, .inl (κ.2 0, 24, .inl (nA (fun _ => 0)))), (q_134_16, .inl (κ.2 0, 24, .inl (nA (fun _ => 0))))]) C (hini rfl) fp_RX9_60_8 0 rfl rfl rfl (Nat.le_of_ble_eq_true rfl) rfl dX9_init_136 rfl ?_
  refine g_aload_n (pc' := 140) C 0 dX9_init_139 rfl rfl rfl ?_
  refine g_iconst (pc' := 141) (v := nI 0) C dX9_init_140 (by decide) rfl ?_
  refine g_put (pc' := 144) (ws' := [(u0, .inr (8, [.int (nI 0), .int (nI 0), .ref q_7_1, .ref q_15_2, .int (nI 0), .ref q_22_3, .int (nI 0), .ref q_30_4, .ref q_38_5, .ref q_46_6, .ref q_54_7, .ref q_62_8, .int (nI 0), .ref q_70_9, .int (nI 10), .int (nI 0), .ref q_85_10, .ref q_94_11, .ref q_102_12, .ref q_110_13, .ref q_118_14, .int (nI 0), .ref q_126_15, .ref q_134_16])), (q_7_1, .inl (κ.2 0, 6, .inl (nA (fun _ => 0)))), (q_15_2, .inl (κ.2 0, 6, .inl (nA (fun _ => 0)))), (q_22_3, .inl (κ.2 0, 4, .inl (oA (fun _ => some 0)))), (q_30_4, .inl (κ.2 1, 8, .inl (zA (fun _ => false)))), (q_38_5, .inl (κ.2 0, 8, .inl (nA (fun _ => 0)))), (q_46_6, .inl (κ.2 0, 8, .inl (oA (fun _ => some 0)))), (q_54_7, .inl (κ.2 0, 8, .inl (nA (fun _ => 0)))), (q_62_8, .inl (κ.2 0, 32, .inl (oA (fun _ => some 0)))), (q_70_9, .inl (κ.2 0, 6, .inl (nA (fun _ => 0)))), (q_85_10, .inl (κ.2 0, 160, .inl (nA (fun _ => 0)))), (q_94_11, .inl (κ.2 0, 160, .inl (nA (fun _ => 0)))), (q_102_12, .inl (κ.2 0, 64, .inl (nA (fun _ => 0)))), (q_110_13, .inl (κ.2 0, 6, .inl (oA (fun _ => some 0)))), (q_118_14, .inl (κ.2 0, 6, .inl (nA (fun _ => 0)))), (q_126_15, .inl (κ.2 0, 24, .inl (nA (fun _ => 0)))), (q_134_16, .inl (κ.2 0, 24, .inl (nA (fun _ => 0))))]) C fp_RX9_63_8 0 rfl rfl rfl (Nat.le_of_ble_eq_true rfl) rfl dX9_init_141 rfl ?_
  exact g_retMv C hAe rfl (Nat.le_of_ble_eq_true rfl) (Nat.le_of_ble_eq_true rfl) (⟨_, _, _, _, _, _, _, _, _, _, _, _, _, _, _, _, rfl⟩) dX9_init_144
