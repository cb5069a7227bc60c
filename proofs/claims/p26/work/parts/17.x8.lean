set_option maxHeartbeats 4000000 in
set_option maxRecDepth 100000 in
theorem kX8_needWord (l : Launch) (hst : l.stackTraces = false) (κ : KK) (p0 : Int32) : CYv l yX8_needWord cX8_needWord 1 none 0 1 6 κ [.int p0] [] (fun (E : String) => (E = E_IOB ∧ inZ 0 99 p0 = false)) (fun (vw_ : va_W) => (inZ 0 99 p0 = true) ∧ vw_ = []) := by
  refine cyv_of hst RX8 rfl (by decide) (Nat.le_of_ble_eq_true rfl) ?_
  intro p e s m below meth c A C Y hAe hA
  refine g_lv (lv' := [(0, .int p0)]) [0] rfl ?_
  refine g_iload_n (pc' := 1) C 0 dX8_needWord_0 rfl rfl rfl ?_
  refine g_if_lt (pc' := 4) (tgt := 10) C dX8_needWord_1 (by decide) rfl (fun c_1_1 => ?_) (fun c_1_1 => ?_)
  · rw [z_lt0] at c_1_1
    exact g_throw C Y th_IOB st_220 hAe ⟨rfl, by exact inZ_f (by omega)⟩ (Nat.le_of_ble_eq_true rfl) ⟨(Nat.le_of_ble_eq_true rfl), (Nat.le_of_ble_eq_true rfl)⟩ (Nat.le_of_ble_eq_true rfl) (Nat.le_of_ble_eq_true rfl) (Nat.le_of_ble_eq_true rfl) (Nat.le_of_ble_eq_true rfl) [] rfl dX8_needWord_10 dX8_needWord_13 dX8_needWord_14 dX8_needWord_16 dX8_needWord_19
  · rw [z_lt0] at c_1_1
    refine g_iload_n (pc' := 5) C 0 dX8_needWord_4 rfl rfl rfl ?_
    refine g_bipush (pc' := 7) (v := nI 100) C dX8_needWord_5 (by decide) rfl ?_
    refine g_icmp_lt (pc' := 10) (tgt := 20) C dX8_needWord_7 (by decide) rfl (fun c_7_2 => ?_) (fun c_7_2 => ?_)
    · rw [z_lt (by decide)] at c_7_2
      refine g_x ?_
      exact g_retMv C hAe rfl (Nat.le_of_ble_eq_true rfl) (Nat.le_of_ble_eq_true rfl) (⟨inZ_t (by omega) (by omega), rfl⟩) dX8_needWord_20
    · rw [z_lt (by decide)] at c_7_2
      exact g_throw C Y th_IOB st_220 hAe ⟨rfl, by exact inZ_f (by omega)⟩ (Nat.le_of_ble_eq_true rfl) ⟨(Nat.le_of_ble_eq_true rfl), (Nat.le_of_ble_eq_true rfl)⟩ (Nat.le_of_ble_eq_true rfl) (Nat.le_of_ble_eq_true rfl) (Nat.le_of_ble_eq_true rfl) (Nat.le_of_ble_eq_true rfl) [] rfl dX8_needWord_10 dX8_needWord_13 dX8_needWord_14 dX8_needWord_16 dX8_needWord_19

set_option maxHeartbeats 4000000 in
set_option maxRecDepth 100000 in
theorem kX8_needCost (l : Launch) (hst : l.stackTraces = false) (κ : KK) (p0 : Int32) : CYv l yX8_needCost cX8_needCost 1 none 0 1 6 κ [.int p0] [] (fun (E : String) => (E = E_IAE ∧ inZ 1 20 p0 = false)) (fun (vw_ : va_W) => (inZ 1 20 p0 = true) ∧ vw_ = []) := by
  refine cyv_of hst RX8 rfl (by decide) (Nat.le_of_ble_eq_true rfl) ?_
  intro p e s m below meth c A C Y hAe hA
  refine g_lv (lv' := [(0, .int p0)]) [0] rfl ?_
  refine g_iload_n (pc' := 1) C 0 dX8_needCost_0 rfl rfl rfl ?_
  refine g_iconst (pc' := 2) (v := nI 1) C dX8_needCost_1 (by decide) rfl ?_
  refine g_icmp_lt (pc' := 5) (tgt := 11) C dX8_needCost_2 (by decide) rfl (fun c_2_1 => ?_) (fun c_2_1 => ?_)
  · rw [z_lt (by decide)] at c_2_1
    exact g_throw C Y th_IAE st_145 hAe ⟨rfl, by exact inZ_f (by omega)⟩ (Nat.le_of_ble_eq_true rfl) ⟨(Nat.le_of_ble_eq_true rfl), (Nat.le_of_ble_eq_true rfl)⟩ (Nat.le_of_ble_eq_true rfl) (Nat.le_of_ble_eq_true rfl) (Nat.le_of_ble_eq_true rfl) (Nat.le_of_ble_eq_true rfl) [] rfl dX8_needCost_11 dX8_needCost_14 dX8_needCost_15 dX8_needCost_17 dX8_needCost_20
  · rw [z_lt (by decide)] at c_2_1
    refine g_iload_n (pc' := 6) C 0 dX8_needCost_5 rfl rfl rfl ?_
    refine g_bipush (pc' := 8) (v := nI 20) C dX8_needCost_6 (by decide) rfl ?_
    refine g_icmp_le (pc' := 11) (tgt := 21) C dX8_needCost_8 (by decide) rfl (fun c_8_2 => ?_) (fun c_8_2 => ?_)
    · rw [z_le (by decide)] at c_8_2
      refine g_x ?_
      exact g_retMv C hAe rfl (Nat.le_of_ble_eq_true rfl) (Nat.le_of_ble_eq_true rfl) (⟨inZ_t (by omega) (by omega), rfl⟩) dX8_needCost_21
    · rw [z_le (by decide)] at c_8_2
      exact g_throw C Y th_IAE st_145 hAe ⟨rfl, by exact inZ_f (by omega)⟩ (Nat.le_of_ble_eq_true rfl) ⟨(Nat.le_of_ble_eq_true rfl), (Nat.le_of_ble_eq_true rfl)⟩ (Nat.le_of_ble_eq_true rfl) (Nat.le_of_ble_eq_true rfl) (Nat.le_of_ble_eq_true rfl) (Nat.le_of_ble_eq_true rfl) [] rfl dX8_needCost_11 dX8_needCost_14 dX8_needCost_15 dX8_needCost_17 dX8_needCost_20

set_option maxHeartbeats 4000000 in
set_option maxRecDepth 100000 in
theorem kX8_needReader (l : Launch) (hst : l.stackTraces = false) (κ : KK) (p0 : Int32) : CYv l yX8_needReader cX8_needReader 1 none 0 1 6 κ [.int p0] [] (fun (E : String) => (E = E_IOB ∧ inZ 0 2 p0 = false)) (fun (vw_ : va_W) => (inZ 0 2 p0 = true) ∧ vw_ = []) := by
  refine cyv_of hst RX8 rfl (by decide) (Nat.le_of_ble_eq_true rfl) ?_
  intro p e s m below meth c A C Y hAe hA
  refine g_lv (lv' := [(0, .int p0)]) [0] rfl ?_
  refine g_iload_n (pc' := 1) C 0 dX8_needReader_0 rfl rfl rfl ?_
  refine g_if_lt (pc' := 4) (tgt := 9) C dX8_needReader_1 (by decide) rfl (fun c_1_1 => ?_) (fun c_1_1 => ?_)
  · rw [z_lt0] at c_1_1
    exact g_throw C Y th_IOB st_223 hAe ⟨rfl, by exact inZ_f (by omega)⟩ (Nat.le_of_ble_eq_true rfl) ⟨(Nat.le_of_ble_eq_true rfl), (Nat.le_of_ble_eq_true rfl)⟩ (Nat.le_of_ble_eq_true rfl) (Nat.le_of_ble_eq_true rfl) (Nat.le_of_ble_eq_true rfl) (Nat.le_of_ble_eq_true rfl) [] rfl dX8_needReader_9 dX8_needReader_12 dX8_needReader_13 dX8_needReader_15 dX8_needReader_18
  · rw [z_lt0] at c_1_1
    refine g_iload_n (pc' := 5) C 0 dX8_needReader_4 rfl rfl rfl ?_
    refine g_iconst (pc' := 6) (v := nI 3) C dX8_needReader_5 (by decide) rfl ?_
    refine g_icmp_lt (pc' := 9) (tgt := 19) C dX8_needReader_6 (by decide) rfl (fun c_6_2 => ?_) (fun c_6_2 => ?_)
    · rw [z_lt (by decide)] at c_6_2
      refine g_x ?_
      exact g_retMv C hAe rfl (Nat.le_of_ble_eq_true rfl) (Nat.le_of_ble_eq_true rfl) (⟨inZ_t (by omega) (by omega), rfl⟩) dX8_needReader_19
    · rw [z_lt (by decide)] at c_6_2
      exact g_throw C Y th_IOB st_223 hAe ⟨rfl, by exact inZ_f (by omega)⟩ (Nat.le_of_ble_eq_true rfl) ⟨(Nat.le_of_ble_eq_true rfl), (Nat.le_of_ble_eq_true rfl)⟩ (Nat.le_of_ble_eq_true rfl) (Nat.le_of_ble_eq_true rfl) (Nat.le_of_ble_eq_true rfl) (Nat.le_of_ble_eq_true rfl) [] rfl dX8_needReader_9 dX8_needReader_12 dX8_needReader_13 dX8_needReader_15 dX8_needReader_18

set_option maxHeartbeats 4000000 in
set_option maxRecDepth 100000 in
theorem kX5_hasPlaceR (l : Launch) (κ : KK) (b0 : Nat) (b1 : Nat) (len : Nat) (p0 : Int32) (hl : len ≤ 6) : CP l yX5_hasPlace cX5_hasPlace 2 (some .boolean) 0 κ [.ref b0, .int p0] [(b0, .inr (4, [.ref b1, .int (nI len)]))] (fun vr_ => vr_ = b2i (inZ 0 ((len : Int) - 1) p0)) := by
  refine cp_of RX5 rfl (by decide) (Nat.le_of_ble_eq_true rfl) ?_
  intro p e s m below meth c C
  refine g_lv (lv' := [(0, .ref b0), (1, .int p0)]) [0, 1] rfl ?_
  refine g_iload_n (pc' := 1) C 1 dX5_hasPlace_0 rfl rfl rfl ?_
  refine g_if_lt (pc' := 4) (tgt := 22) C dX5_hasPlace_1 (by decide) rfl (fun c_1_1 => ?_) (fun c_1_1 => ?_)
  · rw [z_lt0] at c_1_1
    refine g_iconst (pc' := 23) (v := nI 0) C dX5_hasPlace_22 (by decide) rfl ?_
    exact g_retP C rfl rfl (show nI 0 = b2i (inZ 0 ((len : Int) - 1) p0) by exact bF (inZ_f (by omega))) dX5_hasPlace_23
  · rw [z_lt0] at c_1_1
    refine g_iload_n (pc' := 5) C 1 dX5_hasPlace_4 rfl rfl rfl ?_
    refine g_aload_n (pc' := 6) C 0 dX5_hasPlace_5 rfl rfl rfl ?_
    refine g_get (pc' := 9) C fl_RX5_15_4 0 rfl rfl dX5_hasPlace_6 rfl ?_
    refine g_icmp_ge (pc' := 12) (tgt := 22) C dX5_hasPlace_9 (by decide) rfl (fun c_9_2 => ?_) (fun c_9_2 => ?_)
    · rw [z_ge (by first | assumption | omega)] at c_9_2
      refine g_iconst (pc' := 23) (v := nI 0) C dX5_hasPlace_22 (by decide) rfl ?_
      exact g_retP C rfl rfl (show nI 0 = b2i (inZ 0 ((len : Int) - 1) p0) by exact bF (inZ_f (by omega))) dX5_hasPlace_23
    · rw [z_ge (by first | assumption | omega)] at c_9_2
      refine g_iload_n (pc' := 13) C 1 dX5_hasPlace_12 rfl rfl rfl ?_
      refine g_bipush (pc' := 15) (v := nI 6) C dX5_hasPlace_13 (by decide) rfl ?_
      refine g_icmp_ge (pc' := 18) (tgt := 22) C dX5_hasPlace_15 (by decide) rfl (fun c_15_3 => ?_) (fun c_15_3 => ?_)
      · rw [z_ge (by decide)] at c_15_3
        refine g_iconst (pc' := 23) (v := nI 0) C dX5_hasPlace_22 (by decide) rfl ?_
        exact g_retP C rfl rfl (show nI 0 = b2i (inZ 0 ((len : Int) - 1) p0) by exact bF (inZ_f (by omega))) dX5_hasPlace_23
      · rw [z_ge (by decide)] at c_15_3
        refine g_iconst (pc' := 19) (v := nI 1) C dX5_hasPlace_18 (by decide) rfl ?_
        refine g_goto (tgt := 23) C dX5_hasPlace_19 (by decide) ?_
        exact g_retP C rfl rfl (show nI 1 = b2i (inZ 0 ((len : Int) - 1) p0) by exact bT (inZ_t (by omega) (by omega))) dX5_hasPlace_23

set_option maxHeartbeats 4000000 in
set_option maxRecDepth 100000 in
theorem kX8_needPlace (l : Launch) (hst : l.stackTraces = false) (κ : KK) (x0 : Nat) (a0 : Nat) (b0 : Nat) (q0 : Nat) (c0 : Nat) (k0 : Nat) (m1 : Nat) (m2 : Nat) (mc : Nat) (ds : Nat) (ba : Nat) (dy : Nat) (b1 : Nat) (len : Nat) (p0 : Int32) (hl : len ≤ 6) : CYv l yX8_needPlace cX8_needPlace 2 none 1 1 6 κ [.ref x0, .int p0] [(x0, .inr (7, [.ref a0, .ref b0, .ref q0, .ref c0, .ref k0, .ref m1, .ref m2, .int (nI mc), .int (nI ds), .int (nI ba), .int (nI dy)])), (b0, .inr (4, [.ref b1, .int (nI len)]))] (fun (E : String) => (E = E_IOB ∧ inZ 0 ((len : Int) - 1) p0 = false)) (fun (vw_ : va_W) => (inZ 0 ((len : Int) - 1) p0 = true) ∧ vw_ = [(x0, .inr (7, [.ref a0, .ref b0, .ref q0, .ref c0, .ref k0, .ref m1, .ref m2, .int (nI mc), .int (nI ds), .int (nI ba), .int (nI dy)])), (b0, .inr (4, [.ref b1, .int (nI len)]))]) := by
  refine cyv_of hst RX8 rfl (by decide) (Nat.le_of_ble_eq_true rfl) ?_
  intro p e s m below meth c A C Y hAe hA
  refine g_lv (lv' := [(0, .ref x0), (1, .int p0)]) [0, 1] rfl ?_
  refine g_aload_n (pc' := 1) C 0 dX8_needPlace_0 rfl rfl rfl ?_
  refine g_get (pc' := 4) C fl_RX8_19_7 0 rfl rfl dX8_needPlace_1 rfl ?_
  refine g_iload_n (pc' := 5) C 1 dX8_needPlace_4 rfl rfl rfl ?_
  refine g_callP (pc' := 8) C lk_RX8_235 (kX5_hasPlaceR l κ b0 b1 len p0 (by first | assumption | omega)) 1 rfl rfl [1] rfl rfl (Nat.le_of_ble_eq_true rfl) ⟨Nat.le_of_ble_eq_true rfl, Nat.le_of_ble_eq_true rfl⟩ ⟨Nat.le_of_ble_eq_true rfl, Nat.le_of_ble_eq_true rfl⟩ rfl dX8_needPlace_5 rfl (fun r_5_1 h_5_1 => ?_)
  obtain rfl : r_5_1 = b2i (inZ 0 ((len : Int) - 1) p0) := h_5_1
  refine g_if_neB (pc' := 11) (tgt := 21) C dX8_needPlace_8 (by decide) rfl (fun c_8_2 => ?_) (fun c_8_2 => ?_)
  · refine g_x ?_
    exact g_retMv C hAe rfl (Nat.le_of_ble_eq_true rfl) (Nat.le_of_ble_eq_true rfl) (⟨c_8_2, rfl⟩) dX8_needPlace_21
  · exact g_throw C Y th_IOB st_238 hAe ⟨rfl, by assumption⟩ (Nat.le_of_ble_eq_true rfl) ⟨(Nat.le_of_ble_eq_true rfl), (Nat.le_of_ble_eq_true rfl)⟩ (Nat.le_of_ble_eq_true rfl) (Nat.le_of_ble_eq_true rfl) (Nat.le_of_ble_eq_true rfl) (Nat.le_of_ble_eq_true rfl) [0, 1] rfl dX8_needPlace_11 dX8_needPlace_14 dX8_needPlace_15 dX8_needPlace_17 dX8_needPlace_20

set_option maxHeartbeats 4000000 in
set_option maxRecDepth 100000 in
theorem kX8_needRoomForEntry (l : Launch) (hst : l.stackTraces = false) (κ : KK) (x0 : Nat) (a0 : Nat) (b0 : Nat) (q0 : Nat) (c0 : Nat) (k0 : Nat) (m1 : Nat) (m2 : Nat) (mc : Nat) (ds : Nat) (ba : Nat) (dy : Nat) (th : Nat → Bool) (ea : Nat → Nat) (hm : mc ≤ 8) : CYv l yX8_needRoomForEntry cX8_needRoomForEntry 1 none 0 1 6 κ [.ref x0] [(x0, .inr (7, [.ref a0, .ref b0, .ref q0, .ref c0, .ref k0, .ref m1, .ref m2, .int (nI mc), .int (nI ds), .int (nI ba), .int (nI dy)])), (m1, .inl (κ.2 2, 8, .inr (.inr (.inr (.inr (enR th ea))))))] (fun (E : String) => (E = E_ISE ∧ 8 ≤ mc)) (fun (vw_ : va_W) => (mc < 8) ∧ vw_ = [(x0, .inr (7, [.ref a0, .ref b0, .ref q0, .ref c0, .ref k0, .ref m1, .ref m2, .int (nI mc), .int (nI ds), .int (nI ba), .int (nI dy)])), (m1, .inl (κ.2 2, 8, .inr (.inr (.inr (.inr (enR th ea))))))]) := by
  refine cyv_of hst RX8 rfl (by decide) (Nat.le_of_ble_eq_true rfl) ?_
  intro p e s m below meth c A C Y hAe hA
  refine g_lv (lv' := [(0, .ref x0)]) [0] rfl ?_
  refine g_aload_n (pc' := 1) C 0 dX8_needRoomForEntry_0 rfl rfl rfl ?_
  refine g_get (pc' := 4) C fl_RX8_230_7 0 rfl rfl dX8_needRoomForEntry_1 rfl ?_
  refine g_aload_n (pc' := 5) C 0 dX8_needRoomForEntry_4 rfl rfl rfl ?_
  refine g_get (pc' := 8) C fl_RX8_46_7 0 rfl rfl dX8_needRoomForEntry_5 rfl ?_
  refine g_alen (pc' := 9) C 1 2 rfl rfl dX8_needRoomForEntry_8 rfl ?_
  refine g_icmp_ltN (pc' := 12) (tgt := 22) C (by first | assumption | omega) (by first | assumption | omega) dX8_needRoomForEntry_9 (by decide) rfl (fun c_9_1 => ?_) (fun c_9_1 => ?_)
  · refine g_x ?_
    exact g_retMv C hAe rfl (Nat.le_of_ble_eq_true rfl) (Nat.le_of_ble_eq_true rfl) (⟨by omega, rfl⟩) dX8_needRoomForEntry_22
  · exact g_throw C Y th_ISE st_233 hAe ⟨rfl, by omega⟩ (Nat.le_of_ble_eq_true rfl) ⟨(Nat.le_of_ble_eq_true rfl), (Nat.le_of_ble_eq_true rfl)⟩ (Nat.le_of_ble_eq_true rfl) (Nat.le_of_ble_eq_true rfl) (Nat.le_of_ble_eq_true rfl) (Nat.le_of_ble_eq_true rfl) [0, 1] rfl dX8_needRoomForEntry_12 dX8_needRoomForEntry_15 dX8_needRoomForEntry_16 dX8_needRoomForEntry_18 dX8_needRoomForEntry_21

set_option maxHeartbeats 4000000 in
set_option maxRecDepth 100000 in
theorem kX8_needEntry (l : Launch) (hst : l.stackTraces = false) (κ : KK) (x0 : Nat) (a0 : Nat) (b0 : Nat) (q0 : Nat) (c0 : Nat) (k0 : Nat) (m1 : Nat) (m2 : Nat) (mc : Nat) (ds : Nat) (ba : Nat) (dy : Nat) (th : Nat → Bool) (ea : Nat → Nat) (p0 : Int32) : CYv l yX8_needEntry cX8_needEntry 2 none 0 1 6 κ [.ref x0, .int p0] [(x0, .inr (7, [.ref a0, .ref b0, .ref q0, .ref c0, .ref k0, .ref m1, .ref m2, .int (nI mc), .int (nI ds), .int (nI ba), .int (nI dy)])), (m1, .inl (κ.2 2, 8, .inr (.inr (.inr (.inr (enR th ea))))))] (fun (E : String) => (E = E_NSE ∧ isE th p0 = false)) (fun (vw_ : va_W) => (isE th p0 = true) ∧ vw_ = [(x0, .inr (7, [.ref a0, .ref b0, .ref q0, .ref c0, .ref k0, .ref m1, .ref m2, .int (nI mc), .int (nI ds), .int (nI ba), .int (nI dy)])), (m1, .inl (κ.2 2, 8, .inr (.inr (.inr (.inr (enR th ea))))))]) := by
  refine cyv_of hst RX8 rfl (by decide) (Nat.le_of_ble_eq_true rfl) ?_
  intro p e s m below meth c A C Y hAe hA
  refine g_lv (lv' := [(0, .ref x0), (1, .int p0)]) [0, 1] rfl ?_
  refine g_iload_n (pc' := 1) C 1 dX8_needEntry_0 rfl rfl rfl ?_
  refine g_if_lt (pc' := 4) (tgt := 22) C dX8_needEntry_1 (by decide) rfl (fun c_1_1 => ?_) (fun c_1_1 => ?_)
  · rw [z_lt0] at c_1_1
    exact g_throwN C Y st_227 hAe ⟨rfl, by exact isE_neg c_1_1⟩ (Nat.le_of_ble_eq_true rfl) ⟨(Nat.le_of_ble_eq_true rfl), (Nat.le_of_ble_eq_true rfl)⟩ (Nat.le_of_ble_eq_true rfl) (Nat.le_of_ble_eq_true rfl) (Nat.le_of_ble_eq_true rfl) (Nat.le_of_ble_eq_true rfl) [0, 1] rfl dX8_needEntry_22 dX8_needEntry_25 dX8_needEntry_26 dX8_needEntry_28 dX8_needEntry_31
  · rw [z_lt0] at c_1_1
    obtain ⟨w0, hw0, rfl⟩ := z_nat c_1_1
    refine g_iload_n (pc' := 5) C 1 dX8_needEntry_4 rfl rfl rfl ?_
    refine g_aload_n (pc' := 6) C 0 dX8_needEntry_5 rfl rfl rfl ?_
    refine g_get (pc' := 9) C fl_RX8_46_7 0 rfl rfl dX8_needEntry_6 rfl ?_
    refine g_alen (pc' := 10) C 1 2 rfl rfl dX8_needEntry_9 rfl ?_
    refine g_icmp_geN (pc' := 13) (tgt := 22) C (by first | assumption | omega) (by first | assumption | omega) dX8_needEntry_10 (by decide) rfl (fun c_10_2 => ?_) (fun c_10_2 => ?_)
    · exact g_throwN C Y st_227 hAe ⟨rfl, by exact isE_ge c_10_2 hw0⟩ (Nat.le_of_ble_eq_true rfl) ⟨(Nat.le_of_ble_eq_true rfl), (Nat.le_of_ble_eq_true rfl)⟩ (Nat.le_of_ble_eq_true rfl) (Nat.le_of_ble_eq_true rfl) (Nat.le_of_ble_eq_true rfl) (Nat.le_of_ble_eq_true rfl) [0, 1] rfl dX8_needEntry_22 dX8_needEntry_25 dX8_needEntry_26 dX8_needEntry_28 dX8_needEntry_31
    · refine g_aload_n (pc' := 14) C 0 dX8_needEntry_13 rfl rfl rfl ?_
      refine g_get (pc' := 17) C fl_RX8_46_7 0 rfl rfl dX8_needEntry_14 rfl ?_
      refine g_iload_n (pc' := 18) C 1 dX8_needEntry_17 rfl rfl rfl ?_
      refine g_aaldE (pc' := 19) C 1 rfl w0 (by first | assumption | omega) (by decide) dX8_needEntry_18 rfl (fun h_18_3 => ?_) (fun b_18_3 h_18_3 => ?_)
      · refine g_ifnonnullN (pc' := 22) C dX8_needEntry_19 rfl ?_
        exact g_throwN C Y st_227 hAe ⟨rfl, by rw [isE_nI (by assumption)]; exact enR_n h_18_3⟩ (Nat.le_of_ble_eq_true rfl) ⟨(Nat.le_of_ble_eq_true rfl), (Nat.le_of_ble_eq_true rfl)⟩ (Nat.le_of_ble_eq_true rfl) (Nat.le_of_ble_eq_true rfl) (Nat.le_of_ble_eq_true rfl) (Nat.le_of_ble_eq_true rfl) [0, 1] rfl dX8_needEntry_22 dX8_needEntry_25 dX8_needEntry_26 dX8_needEntry_28 dX8_needEntry_31
      · refine g_ifnonnull (tgt := 32) C dX8_needEntry_19 (by decide) ?_
        refine g_x ?_
        exact g_retMv C hAe rfl (Nat.le_of_ble_eq_true rfl) (Nat.le_of_ble_eq_true rfl) (⟨by rw [isE_nI (by assumption)]; exact (enR_s h_18_3).1, rfl⟩) dX8_needEntry_32
