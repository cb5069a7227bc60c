set_option maxHeartbeats 4000000 in
set_option maxRecDepth 100000 in
theorem kX4_isFull (l : Launch) (κ : KK) (a0 : Nat) (a1 : Nat) (a2 : Nat) (n : Nat) (hn : n ≤ 6) : CP l yX4_isFull cX4_isFull 1 (some .boolean) 0 κ [.ref a0] [(a0, .inr (3, [.ref a1, .ref a2, .int (nI n)]))] (fun vr_ => vr_ = b2i (decide (6 ≤ n))) := by
  refine cp_of RX4 rfl (by decide) (Nat.le_of_ble_eq_true rfl) ?_
  intro p e s m below meth c C
  refine g_lv (lv' := [(0, .ref a0)]) [0] rfl ?_
  refine g_aload_n (pc' := 1) C 0 dX4_isFull_0 rfl rfl rfl ?_
  refine g_get (pc' := 4) C fl_RX4_18_3 0 rfl rfl dX4_isFull_1 rfl ?_
  refine g_bipush (pc' := 6) (v := nI 6) C dX4_isFull_4 (by decide) rfl ?_
  refine g_icmp_ltN (pc' := 9) (tgt := 13) C (by first | assumption | omega) (by first | assumption | omega) dX4_isFull_6 (by decide) rfl (fun c_6_1 => ?_) (fun c_6_1 => ?_)
  · refine g_iconst (pc' := 14) (v := nI 0) C dX4_isFull_13 (by decide) rfl ?_
    exact g_retP C rfl rfl (show nI 0 = b2i (decide (6 ≤ n)) by exact bF (by simp <;> omega)) dX4_isFull_14
  · refine g_iconst (pc' := 10) (v := nI 1) C dX4_isFull_9 (by decide) rfl ?_
    refine g_goto (tgt := 14) C dX4_isFull_10 (by decide) ?_
    exact g_retP C rfl rfl (show nI 1 = b2i (decide (6 ≤ n)) by exact bT (by simp <;> omega)) dX4_isFull_14

set_option maxHeartbeats 4000000 in
set_option maxRecDepth 100000 in
theorem kX4_put (l : Launch) (κ : KK) (a0 : Nat) (a1 : Nat) (a2 : Nat) (n : Nat) (fk : Nat → Nat) (fs : Nat → Nat) (kd : Nat) (sp : Nat) (hn : n < 6) : CMi l yX4_put cX4_put 4 (some .int) 0 0 0 κ [.ref a0, .int (nI kd), .int (nI sp)] [(a0, .inr (3, [.ref a1, .ref a2, .int (nI n)])), (a1, .inl (κ.2 0, 6, .inl (nA fk))), (a2, .inl (κ.2 0, 6, .inl (nA fs)))] (fun (vr_ : Int32) (vw_ : va_W) => vr_ = nI n ∧ vw_ = [(a0, .inr (3, [.ref a1, .ref a2, .int (nI (n + 1))])), (a1, .inl (κ.2 0, 6, .inl (nA (va_up fk n kd)))), (a2, .inl (κ.2 0, 6, .inl (nA (va_up fs n sp))))]) := by
  refine cmi_of RX4 rfl (by decide) (Nat.le_of_ble_eq_true rfl) ?_
  intro p e s m below meth c A C hAe hA hini
  refine g_lv (lv' := [(0, .ref a0), (1, .int (nI kd)), (2, .int (nI sp))]) [0, 1, 2] rfl ?_
  refine g_aload_n (pc' := 1) C 0 dX4_put_0 rfl rfl rfl ?_
  refine g_get (pc' := 4) C fl_RX4_18_3 0 rfl rfl dX4_put_1 rfl ?_
  refine g_istore_n (pc' := 5) (lv' := [(3, .int (nI n)), (0, .ref a0), (1, .int (nI kd)), (2, .int (nI sp))]) C dX4_put_4 rfl (by decide) rfl rfl ?_
  refine g_iload_n (pc' := 6) C 0 dX4_put_5 rfl rfl rfl ?_
  refine g_bipush (pc' := 8) (v := nI 6) C dX4_put_6 (by decide) rfl ?_
  refine g_icmp_geN (pc' := 11) (tgt := 35) C (by first | assumption | omega) (by first | assumption | omega) dX4_put_8 (by decide) rfl (fun c_8_1 => absurd c_8_1 (by omega)) (fun c_8_1 => ?_)
  refine g_aload_n (pc' := 12) C 1 dX4_put_11 rfl rfl rfl ?_
  refine g_get (pc' := 15) C fl_RX4_9_3 0 rfl rfl dX4_put_12 rfl ?_
  refine g_iload_n (pc' := 16) C 0 dX4_put_15 rfl rfl rfl ?_
  refine g_iload_n (pc' := 17) C 2 dX4_put_16 rfl rfl rfl ?_
  refine g_iastN (pc' := 18) (ws' := [(a0, .inr (3, [.ref a1, .ref a2, .int (nI n)])), (a1, .inl (κ.2 0, 6, .inl (nA (va_up fk n kd)))), (a2, .inl (κ.2 0, 6, .inl (nA fs)))]) C 1 rfl n (by first | assumption | omega) (by decide) rfl dX4_put_17 rfl ?_
  refine g_aload_n (pc' := 19) C 1 dX4_put_18 rfl rfl rfl ?_
  refine g_get (pc' := 22) C fl_RX4_15_3 0 rfl rfl dX4_put_19 rfl ?_
  refine g_iload_n (pc' := 23) C 0 dX4_put_22 rfl rfl rfl ?_
  refine g_iload_n (pc' := 24) C 3 dX4_put_23 rfl rfl rfl ?_
  refine g_iastN (pc' := 25) (ws' := [(a0, .inr (3, [.ref a1, .ref a2, .int (nI n)])), (a1, .inl (κ.2 0, 6, .inl (nA (va_up fk n kd)))), (a2, .inl (κ.2 0, 6, .inl (nA (va_up fs n sp))))]) C 2 rfl n (by first | assumption | omega) (by decide) rfl dX4_put_24 rfl ?_
  refine g_aload_n (pc' := 26) C 1 dX4_put_25 rfl rfl rfl ?_
  refine g_dup (pc' := 27) C dX4_put_26 rfl rfl ?_
  refine g_get (pc' := 30) C fl_RX4_18_3 0 rfl rfl dX4_put_27 rfl ?_
  refine g_iconst (pc' := 31) (v := nI 1) C dX4_put_30 (by decide) rfl ?_
  refine g_iadd (pc' := 32) (v := nI (n + 1)) C dX4_put_31 (nI_add _ _) rfl ?_
  refine g_put (pc' := 35) (ws' := [(a0, .inr (3, [.ref a1, .ref a2, .int (nI (n + 1))])), (a1, .inl (κ.2 0, 6, .inl (nA (va_up fk n kd)))), (a2, .inl (κ.2 0, 6, .inl (nA (va_up fs n sp))))]) C fp_RX4_18_3 0 rfl rfl rfl (Nat.le_of_ble_eq_true rfl) rfl dX4_put_32 rfl ?_
  refine g_iload_n (pc' := 36) C 0 dX4_put_35 rfl rfl rfl ?_
  exact g_retMi C hAe rfl rfl (Nat.le_of_ble_eq_true rfl) (Nat.le_of_ble_eq_true rfl) (⟨rfl, rfl⟩) dX4_put_36

set_option maxHeartbeats 4000000 in
set_option maxRecDepth 100000 in
theorem kX4_leadBack (l : Launch) (κ : KK) (a0 : Nat) (a1 : Nat) (a2 : Nat) (n : Nat) (fk : Nat → Nat) (fs : Nat → Nat) (w : Nat) (h : Nat) (hR : RW n fk fs) (hw : w < 100) (hh : h < 100) : CP l yX4_leadBack cX4_leadBack 4 (some .boolean) 0 κ [.ref a0, .int (nI w), .int (nI h)] [(a0, .inr (3, [.ref a1, .ref a2, .int (nI n)])), (a1, .inl (κ.2 0, 6, .inl (nA fk))), (a2, .inl (κ.2 0, 6, .inl (nA fs)))] (fun vr_ => vr_ = b2i (fm n fk fs w h)) := by
  refine cp_of RX4 rfl (by decide) (Nat.le_of_ble_eq_true rfl) ?_
  intro p e s m below meth c C
  refine g_lv (lv' := [(0, .ref a0), (1, .int (nI w)), (2, .int (nI h))]) [0, 1, 2] rfl ?_
  obtain ⟨hn, hk, hs⟩ := hR
  refine g_iload_n (pc' := 1) C 1 dX4_leadBack_0 rfl rfl rfl ?_
  refine g_iload_n (pc' := 2) C 2 dX4_leadBack_1 rfl rfl rfl ?_
  refine g_icmp_neN (pc' := 5) (tgt := 7) C (by first | assumption | omega) (by first | assumption | omega) dX4_leadBack_2 (by decide) rfl (fun c_2_1 => ?_) (fun c_2_1 => ?_)
  · refine g_iconst (pc' := 8) (v := nI 0) C dX4_leadBack_7 (by decide) rfl ?_
    refine g_istore_n (pc' := 9) (lv' := [(3, .int (nI 0)), (0, .ref a0), (1, .int (nI w)), (2, .int (nI h))]) C dX4_leadBack_8 rfl (by decide) rfl rfl ?_
    have lp_a : ∀ (fu_a : Nat) (i : Nat), (i ≤ n) → (fmL fk fs w h i = false) → (n - i) < fu_a → G p l e (rmv 0 0 0) s m ([.ref a0, .int (nI w), .int (nI h)] : List Value).toArray below meth c κ 4 (JP s) [(a0, .inr (3, [.ref a1, .ref a2, .int (nI n)])), (a1, .inl (κ.2 0, 6, .inl (nA fk))), (a2, .inl (κ.2 0, 6, .inl (nA fs)))] 0 0 (MQ below (vp_Si (fun vr_ => vr_ = b2i (fm n fk fs w h))) ([.ref a0, .int (nI w), .int (nI h)] : List Value).toArray s 0 0 (fun _ => False)) 9 [(3, .int (nI i)), (1, .int (nI w)), (2, .int (nI h)), (0, .ref a0)] [] := by
      intro fu_a
      induction fu_a with
      | zero => intro i hi hf hmu; exact absurd hmu (Nat.not_lt_zero _)
      | succ fu_a ih_a =>
        intro i hi hf hmu_a
        refine g_iload_n (pc' := 10) C 0 dX4_leadBack_9 rfl rfl rfl ?_
        refine g_aload_n (pc' := 11) C 3 dX4_leadBack_10 rfl rfl rfl ?_
        refine g_get (pc' := 14) C fl_RX4_18_3 0 rfl rfl dX4_leadBack_11 rfl ?_
        refine g_icmp_geN (pc' := 17) (tgt := 55) C (by first | assumption | omega) (by first | assumption | omega) dX4_leadBack_14 (by decide) rfl (fun c_14_2 => ?_) (fun c_14_2 => ?_)
        · refine g_iconst (pc' := 56) (v := nI 0) C dX4_leadBack_55 (by decide) rfl ?_
          exact g_retP C rfl rfl (show nI 0 = b2i (fm n fk fs w h) by exact bF (by have e : i = n := (by omega); subst e; simp [fm, hf]; assumption)) dX4_leadBack_56
        · refine g_iload_n (pc' := 18) C 0 dX4_leadBack_17 rfl rfl rfl ?_
          refine g_bipush (pc' := 20) (v := nI 6) C dX4_leadBack_18 (by decide) rfl ?_
          refine g_icmp_geN (pc' := 23) (tgt := 55) C (by first | assumption | omega) (by first | assumption | omega) dX4_leadBack_20 (by decide) rfl (fun c_20_3 => ?_) (fun c_20_3 => ?_)
          · refine g_iconst (pc' := 56) (v := nI 0) C dX4_leadBack_55 (by decide) rfl ?_
            exact g_retP C rfl rfl (show nI 0 = b2i (fm n fk fs w h) by exact bF (by have e : i = n := (by omega); subst e; simp [fm, hf]; assumption)) dX4_leadBack_56
          · refine g_aload_n (pc' := 24) C 3 dX4_leadBack_23 rfl rfl rfl ?_
            refine g_get (pc' := 27) C fl_RX4_9_3 0 rfl rfl dX4_leadBack_24 rfl ?_
            refine g_iload_n (pc' := 28) C 0 dX4_leadBack_27 rfl rfl rfl ?_
            refine g_ialdN (pc' := 29) C 1 (f := fk) rfl i (by first | assumption | omega) (by decide) dX4_leadBack_28 rfl ?_
            refine g_iload_n (pc' := 30) C 2 dX4_leadBack_29 rfl rfl rfl ?_
            refine g_iconst (pc' := 31) (v := nI 3) C dX4_leadBack_30 (by decide) rfl ?_
            refine g_irem (pc' := 32) (v := nI (h % 3)) C dX4_leadBack_31 (by decide) (pk_remN (by first | assumption | omega) (by decide) (by decide)) rfl ?_
            refine g_icmp_neN (pc' := 35) (tgt := 49) C (Nat.lt_trans (hk _) (by decide)) (by omega) dX4_leadBack_32 (by decide) rfl (fun c_32_4 => ?_) (fun c_32_4 => ?_)
            · refine g_iinc (pc' := 52) (v := nI (i + 1)) (lv' := [(3, .int (nI (i + 1))), (1, .int (nI w)), (2, .int (nI h)), (0, .ref a0)]) C 0 dX4_leadBack_49 rfl (iincN1 _) (by decide) rfl rfl ?_
              refine g_goto (tgt := 9) C dX4_leadBack_52 (by decide) ?_
              exact ih_a (i + 1) (by first | assumption | omega) (by simp [fmL, hf]; intro q; omega) (by omega)
            · refine g_iload_n (pc' := 36) C 1 dX4_leadBack_35 rfl rfl rfl ?_
              refine g_iload_n (pc' := 37) C 2 dX4_leadBack_36 rfl rfl rfl ?_
              refine g_aload_n (pc' := 38) C 3 dX4_leadBack_37 rfl rfl rfl ?_
              refine g_get (pc' := 41) C fl_RX4_15_3 0 rfl rfl dX4_leadBack_38 rfl ?_
              refine g_iload_n (pc' := 42) C 0 dX4_leadBack_41 rfl rfl rfl ?_
              refine g_ialdN (pc' := 43) C 2 (f := fs) rfl i (by first | assumption | omega) (by decide) dX4_leadBack_42 rfl ?_
              refine g_iadd (pc' := 44) (v := nI (h + (fs i))) C dX4_leadBack_43 (nI_add _ _) rfl ?_
              refine g_icmp_neN (pc' := 47) (tgt := 49) C (by first | assumption | omega) (by have := hs i; omega) dX4_leadBack_44 (by decide) rfl (fun c_44_5 => ?_) (fun c_44_5 => ?_)
              · refine g_iinc (pc' := 52) (v := nI (i + 1)) (lv' := [(3, .int (nI (i + 1))), (1, .int (nI w)), (2, .int (nI h)), (0, .ref a0)]) C 0 dX4_leadBack_49 rfl (iincN1 _) (by decide) rfl rfl ?_
                refine g_goto (tgt := 9) C dX4_leadBack_52 (by decide) ?_
                exact ih_a (i + 1) (by first | assumption | omega) (by simp [fmL, hf]; intro q; omega) (by omega)
              · refine g_iconst (pc' := 48) (v := nI 1) C dX4_leadBack_47 (by decide) rfl ?_
                exact g_retP C rfl rfl (show nI 1 = b2i (fm n fk fs w h) by exact bT (fm_t (by omega) c_32_4 c_44_5)) dX4_leadBack_48
    refine g_lv (lv' := [(3, .int (nI 0)), (1, .int (nI w)), (2, .int (nI h)), (0, .ref a0)]) [0, 2, 3, 1] rfl ?_
    exact lp_a (n + 1) 0 (Nat.zero_le _) rfl (by omega)
  · refine g_iconst (pc' := 6) (v := nI 1) C dX4_leadBack_5 (by decide) rfl ?_
    exact g_retP C rfl rfl (show nI 1 = b2i (fm n fk fs w h) by exact bT (by simp [fm, c_2_1])) dX4_leadBack_6

set_option maxHeartbeats 4000000 in
set_option maxRecDepth 100000 in
theorem kX5_isFull (l : Launch) (κ : KK) (b0 : Nat) (b1 : Nat) (len : Nat) (hl : len ≤ 6) : CP l yX5_isFull cX5_isFull 1 (some .boolean) 0 κ [.ref b0] [(b0, .inr (4, [.ref b1, .int (nI len)]))] (fun vr_ => vr_ = b2i (decide (6 ≤ len))) := by
  refine cp_of RX5 rfl (by decide) (Nat.le_of_ble_eq_true rfl) ?_
  intro p e s m below meth c C
  refine g_lv (lv' := [(0, .ref b0)]) [0] rfl ?_
  refine g_aload_n (pc' := 1) C 0 dX5_isFull_0 rfl rfl rfl ?_
  refine g_get (pc' := 4) C fl_RX5_15_4 0 rfl rfl dX5_isFull_1 rfl ?_
  refine g_bipush (pc' := 6) (v := nI 6) C dX5_isFull_4 (by decide) rfl ?_
  refine g_icmp_ltN (pc' := 9) (tgt := 13) C (by first | assumption | omega) (by first | assumption | omega) dX5_isFull_6 (by decide) rfl (fun c_6_1 => ?_) (fun c_6_1 => ?_)
  · refine g_iconst (pc' := 14) (v := nI 0) C dX5_isFull_13 (by decide) rfl ?_
    exact g_retP C rfl rfl (show nI 0 = b2i (decide (6 ≤ len)) by exact bF (by simp <;> omega)) dX5_isFull_14
  · refine g_iconst (pc' := 10) (v := nI 1) C dX5_isFull_9 (by decide) rfl ?_
    refine g_goto (tgt := 14) C dX5_isFull_10 (by decide) ?_
    exact g_retP C rfl rfl (show nI 1 = b2i (decide (6 ≤ len)) by exact bT (by simp <;> omega)) dX5_isFull_14

set_option maxHeartbeats 4000000 in
set_option maxRecDepth 100000 in
theorem kX5_hasPlace (l : Launch) (κ : KK) (b0 : Nat) (b1 : Nat) (len : Nat) (i : Nat) (hl : len ≤ 6) (hi : i < 2 ^ 31) : CP l yX5_hasPlace cX5_hasPlace 2 (some .boolean) 0 κ [.ref b0, .int (nI i)] [(b0, .inr (4, [.ref b1, .int (nI len)]))] (fun vr_ => vr_ = b2i (decide (i < len))) := by
  refine cp_of RX5 rfl (by decide) (Nat.le_of_ble_eq_true rfl) ?_
  intro p e s m below meth c C
  refine g_lv (lv' := [(0, .ref b0), (1, .int (nI i))]) [0, 1] rfl ?_
  refine g_iload_n (pc' := 1) C 1 dX5_hasPlace_0 rfl rfl rfl ?_
  refine g_if_ltN (pc' := 4) (tgt := 22) C (by first | assumption | omega) dX5_hasPlace_1 (by decide) rfl ?_
  refine g_iload_n (pc' := 5) C 1 dX5_hasPlace_4 rfl rfl rfl ?_
  refine g_aload_n (pc' := 6) C 0 dX5_hasPlace_5 rfl rfl rfl ?_
  refine g_get (pc' := 9) C fl_RX5_15_4 0 rfl rfl dX5_hasPlace_6 rfl ?_
  refine g_icmp_geN (pc' := 12) (tgt := 22) C (by first | assumption | omega) (by first | assumption | omega) dX5_hasPlace_9 (by decide) rfl (fun c_9_2 => ?_) (fun c_9_2 => ?_)
  · refine g_iconst (pc' := 23) (v := nI 0) C dX5_hasPlace_22 (by decide) rfl ?_
    exact g_retP C rfl rfl (show nI 0 = b2i (decide (i < len)) by exact bF (by simp <;> omega)) dX5_hasPlace_23
  · refine g_iload_n (pc' := 13) C 1 dX5_hasPlace_12 rfl rfl rfl ?_
    refine g_bipush (pc' := 15) (v := nI 6) C dX5_hasPlace_13 (by decide) rfl ?_
    refine g_icmp_geN (pc' := 18) (tgt := 22) C (by first | assumption | omega) (by first | assumption | omega) dX5_hasPlace_15 (by decide) rfl (fun c_15_3 => ?_) (fun c_15_3 => ?_)
    · refine g_iconst (pc' := 23) (v := nI 0) C dX5_hasPlace_22 (by decide) rfl ?_
      exact g_retP C rfl rfl (show nI 0 = b2i (decide (i < len)) by exact bF (by simp <;> omega)) dX5_hasPlace_23
    · refine g_iconst (pc' := 19) (v := nI 1) C dX5_hasPlace_18 (by decide) rfl ?_
      refine g_goto (tgt := 23) C dX5_hasPlace_19 (by decide) ?_
      exact g_retP C rfl rfl (show nI 1 = b2i (decide (i < len)) by exact bT (by simp <;> omega)) dX5_hasPlace_23

set_option maxHeartbeats 4000000 in
set_option maxRecDepth 100000 in
theorem kX5_put (l : Launch) (κ : KK) (b0 : Nat) (b1 : Nat) (len : Nat) (fw : Nat → Nat) (w : Nat) (hl : len < 6) : CMi l yX5_put cX5_put 2 (some .int) 0 0 0 κ [.ref b0, .int (nI w)] [(b0, .inr (4, [.ref b1, .int (nI len)])), (b1, .inl (κ.2 0, 6, .inl (nA fw)))] (fun (vr_ : Int32) (vw_ : va_W) => vr_ = nI (len + 1) ∧ vw_ = [(b0, .inr (4, [.ref b1, .int (nI (len + 1))])), (b1, .inl (κ.2 0, 6, .inl (nA (va_up fw len w))))]) := by
  refine cmi_of RX5 rfl (by decide) (Nat.le_of_ble_eq_true rfl) ?_
  intro p e s m below meth c A C hAe hA hini
  refine g_lv (lv' := [(0, .ref b0), (1, .int (nI w))]) [0, 1] rfl ?_
  refine g_aload_n (pc' := 1) C 0 dX5_put_0 rfl rfl rfl ?_
  refine g_get (pc' := 4) C fl_RX5_15_4 0 rfl rfl dX5_put_1 rfl ?_
  refine g_bipush (pc' := 6) (v := nI 6) C dX5_put_4 (by decide) rfl ?_
  refine g_icmp_geN (pc' := 9) (tgt := 29) C (by first | assumption | omega) (by first | assumption | omega) dX5_put_6 (by decide) rfl (fun c_6_1 => absurd c_6_1 (by omega)) (fun c_6_1 => ?_)
  refine g_aload_n (pc' := 10) C 0 dX5_put_9 rfl rfl rfl ?_
  refine g_get (pc' := 13) C fl_RX5_9_4 0 rfl rfl dX5_put_10 rfl ?_
  refine g_aload_n (pc' := 14) C 0 dX5_put_13 rfl rfl rfl ?_
  refine g_get (pc' := 17) C fl_RX5_15_4 0 rfl rfl dX5_put_14 rfl ?_
  refine g_iload_n (pc' := 18) C 1 dX5_put_17 rfl rfl rfl ?_
  refine g_iastN (pc' := 19) (ws' := [(b0, .inr (4, [.ref b1, .int (nI len)])), (b1, .inl (κ.2 0, 6, .inl (nA (va_up fw len w))))]) C 1 rfl len (by first | assumption | omega) (by decide) rfl dX5_put_18 rfl ?_
  refine g_aload_n (pc' := 20) C 0 dX5_put_19 rfl rfl rfl ?_
  refine g_dup (pc' := 21) C dX5_put_20 rfl rfl ?_
  refine g_get (pc' := 24) C fl_RX5_15_4 0 rfl rfl dX5_put_21 rfl ?_
  refine g_iconst (pc' := 25) (v := nI 1) C dX5_put_24 (by decide) rfl ?_
  refine g_iadd (pc' := 26) (v := nI (len + 1)) C dX5_put_25 (nI_add _ _) rfl ?_
  refine g_put (pc' := 29) (ws' := [(b0, .inr (4, [.ref b1, .int (nI (len + 1))])), (b1, .inl (κ.2 0, 6, .inl (nA (va_up fw len w))))]) C fp_RX5_15_4 0 rfl rfl rfl (Nat.le_of_ble_eq_true rfl) rfl dX5_put_26 rfl ?_
  refine g_aload_n (pc' := 30) C 0 dX5_put_29 rfl rfl rfl ?_
  refine g_get (pc' := 33) C fl_RX5_15_4 0 rfl rfl dX5_put_30 rfl ?_
  exact g_retMi C hAe rfl rfl (Nat.le_of_ble_eq_true rfl) (Nat.le_of_ble_eq_true rfl) (⟨rfl, rfl⟩) dX5_put_33

set_option maxHeartbeats 4000000 in
set_option maxRecDepth 100000 in
theorem kX5_empty (l : Launch) (κ : KK) (b0 : Nat) (b1 : Nat) (len : Nat) : CMi l yX5_empty cX5_empty 2 (some .int) 0 0 0 κ [.ref b0] [(b0, .inr (4, [.ref b1, .int (nI len)]))] (fun (vr_ : Int32) (vw_ : va_W) => vr_ = nI len ∧ vw_ = [(b0, .inr (4, [.ref b1, .int (nI 0)]))]) := by
  refine cmi_of RX5 rfl (by decide) (Nat.le_of_ble_eq_true rfl) ?_
  intro p e s m below meth c A C hAe hA hini
  refine g_lv (lv' := [(0, .ref b0)]) [0] rfl ?_
  refine g_aload_n (pc' := 1) C 0 dX5_empty_0 rfl rfl rfl ?_
  refine g_get (pc' := 4) C fl_RX5_15_4 0 rfl rfl dX5_empty_1 rfl ?_
  refine g_istore_n (pc' := 5) (lv' := [(1, .int (nI len)), (0, .ref b0)]) C dX5_empty_4 rfl (by decide) rfl rfl ?_
  refine g_aload_n (pc' := 6) C 1 dX5_empty_5 rfl rfl rfl ?_
  refine g_iconst (pc' := 7) (v := nI 0) C dX5_empty_6 (by decide) rfl ?_
  refine g_put (pc' := 10) (ws' := [(b0, .inr (4, [.ref b1, .int (nI 0)]))]) C fp_RX5_15_4 0 rfl rfl rfl (Nat.le_of_ble_eq_true rfl) rfl dX5_empty_7 rfl ?_
  refine g_iload_n (pc' := 11) C 0 dX5_empty_10 rfl rfl rfl ?_
  exact g_retMi C hAe rfl rfl (Nat.le_of_ble_eq_true rfl) (Nat.le_of_ble_eq_true rfl) (⟨rfl, rfl⟩) dX5_empty_11

set_option maxHeartbeats 4000000 in
set_option maxRecDepth 100000 in
theorem kX5_hasFormAt (l : Launch) (κ : KK) (b0 : Nat) (b1 : Nat) (len : Nat) (fw : Nat → Nat) (a0 : Nat) (a1 : Nat) (a2 : Nat) (n : Nat) (fk : Nat → Nat) (fs : Nat → Nat) (i : Nat) (h : Nat) (hS : SW len fw) (hR : RW n fk fs) (hi : i < 2 ^ 31) (hh : h < 100) : CP l yX5_hasFormAt cX5_hasFormAt 4 (some .boolean) 1 κ [.ref b0, .int (nI i), .int (nI h), .ref a0] [(b0, .inr (4, [.ref b1, .int (nI len)])), (b1, .inl (κ.2 0, 6, .inl (nA fw))), (a0, .inr (3, [.ref a1, .ref a2, .int (nI n)])), (a1, .inl (κ.2 0, 6, .inl (nA fk))), (a2, .inl (κ.2 0, 6, .inl (nA fs)))] (fun vr_ => vr_ = b2i (decide (i < len) && fm n fk fs (fw i) h)) := by
  refine cp_of RX5 rfl (by decide) (Nat.le_of_ble_eq_true rfl) ?_
  intro p e s m below meth c C
  refine g_lv (lv' := [(0, .ref b0), (1, .int (nI i)), (2, .int (nI h)), (3, .ref a0)]) [0, 1, 2, 3] rfl ?_
  have hl6 : len ≤ 6 := hS.1
  have hw := hS.2
  refine g_aload_n (pc' := 1) C 0 dX5_hasFormAt_0 rfl rfl rfl ?_
  refine g_iload_n (pc' := 2) C 1 dX5_hasFormAt_1 rfl rfl rfl ?_
  refine g_callP (pc' := 5) C lk_RX5_19 (kX5_hasPlace l κ b0 b1 len i (by first | assumption | omega) (by first | assumption | omega)) 0 rfl rfl [0] rfl rfl (Nat.le_of_ble_eq_true rfl) ⟨Nat.le_of_ble_eq_true rfl, Nat.le_of_ble_eq_true rfl⟩ ⟨Nat.le_of_ble_eq_true rfl, Nat.le_of_ble_eq_true rfl⟩ rfl dX5_hasFormAt_2 rfl (fun r_2_1 h_2_1 => ?_)
  obtain rfl : r_2_1 = b2i (decide (i < len)) := h_2_1
  refine g_if_eqB (pc' := 8) (tgt := 26) C dX5_hasFormAt_5 (by decide) rfl (fun c_5_2 => ?_) (fun c_5_2 => ?_)
  · refine g_iconst (pc' := 27) (v := nI 0) C dX5_hasFormAt_26 (by decide) rfl ?_
    exact g_retP C rfl rfl (show nI 0 = b2i (decide (i < len) && fm n fk fs (fw i) h) by exact bF (by simp [*])) dX5_hasFormAt_27
  · refine g_aload_n (pc' := 9) C 3 dX5_hasFormAt_8 rfl rfl rfl ?_
    refine g_aload_n (pc' := 10) C 0 dX5_hasFormAt_9 rfl rfl rfl ?_
    refine g_get (pc' := 13) C fl_RX5_9_4 0 rfl rfl dX5_hasFormAt_10 rfl ?_
    refine g_iload_n (pc' := 14) C 1 dX5_hasFormAt_13 rfl rfl rfl ?_
    refine g_ialdN (pc' := 15) C 1 (f := fw) rfl i (by have := of_decide_eq_true c_5_2; omega) (by decide) dX5_hasFormAt_14 rfl ?_
    refine g_iload_n (pc' := 16) C 2 dX5_hasFormAt_15 rfl rfl rfl ?_
    refine g_callP (pc' := 19) C lk_RX5_23 (kX4_leadBack l κ a0 a1 a2 n fk fs (fw i) h (by first | assumption | omega) (hw _) (by first | assumption | omega)) 2 rfl rfl [2, 3, 4] rfl rfl (Nat.le_of_ble_eq_true rfl) ⟨Nat.le_of_ble_eq_true rfl, Nat.le_of_ble_eq_true rfl⟩ ⟨Nat.le_of_ble_eq_true rfl, Nat.le_of_ble_eq_true rfl⟩ rfl dX5_hasFormAt_16 rfl (fun r_16_3 h_16_3 => ?_)
    obtain rfl : r_16_3 = b2i (fm n fk fs (fw i) h) := h_16_3
    refine g_if_eqB (pc' := 22) (tgt := 26) C dX5_hasFormAt_19 (by decide) rfl (fun c_19_4 => ?_) (fun c_19_4 => ?_)
    · refine g_iconst (pc' := 27) (v := nI 0) C dX5_hasFormAt_26 (by decide) rfl ?_
      exact g_retP C rfl rfl (show nI 0 = b2i (decide (i < len) && fm n fk fs (fw i) h) by exact bF (by simp [*])) dX5_hasFormAt_27
    · refine g_iconst (pc' := 23) (v := nI 1) C dX5_hasFormAt_22 (by decide) rfl ?_
      refine g_goto (tgt := 27) C dX5_hasFormAt_23 (by decide) ?_
      exact g_retP C rfl rfl (show nI 1 = b2i (decide (i < len) && fm n fk fs (fw i) h) by exact bT (by simp [*])) dX5_hasFormAt_27

set_option maxHeartbeats 4000000 in
set_option maxRecDepth 100000 in
theorem kX3_placesFrom (l : Launch) (κ : KK) (e0 : Nat) (e1 : Nat) (pr : Nat) (pn : Nat) (pa : Nat → Option Nat) (b0 : Nat) (b1 : Nat) (len : Nat) (fw : Nat → Nat) (a0 : Nat) (a1 : Nat) (a2 : Nat) (n : Nat) (fk : Nat → Nat) (fs : Nat → Nat) (f : Nat) (hP : PW pn pa) (hS : SW len fw) (hR : RW n fk fs) (hf : f < 6) : CP l yX3_placesFrom cX3_placesFrom 6 (some .int) 2 κ [.ref e0, .int (nI f), .ref a0, .ref b0] [(e0, .inr (2, [.int (nI pr), .ref e1])), (e1, .inl (κ.2 0, pn, .inl (oA pa))), (b0, .inr (4, [.ref b1, .int (nI len)])), (b1, .inl (κ.2 0, 6, .inl (nA fw))), (a0, .inr (3, [.ref a1, .ref a2, .int (nI n)])), (a1, .inl (κ.2 0, 6, .inl (nA fk))), (a2, .inl (κ.2 0, 6, .inl (nA fs)))] (fun vr_ => vr_ = nI (phAt n fk fs len fw pa pn f)) := by
  refine cp_of RX3 rfl (by decide) (Nat.le_of_ble_eq_true rfl) ?_
  intro p e s m below meth c C
  refine g_lv (lv' := [(0, .ref e0), (1, .int (nI f)), (2, .ref a0), (3, .ref b0)]) [0, 1, 2, 3] rfl ?_
  obtain ⟨hp1, hp4, hpa⟩ := hP
  refine g_iconst (pc' := 1) (v := nI 0) C dX3_placesFrom_0 (by decide) rfl ?_
  refine g_istore (pc' := 3) (lv' := [(4, .int (nI 0)), (0, .ref e0), (1, .int (nI f)), (2, .ref a0), (3, .ref b0)]) C dX3_placesFrom_1 (by decide) rfl rfl ?_
  refine g_iconst (pc' := 4) (v := nI 0) C dX3_placesFrom_3 (by decide) rfl ?_
  refine g_istore (pc' := 6) (lv' := [(5, .int (nI 0)), (4, .int (nI 0)), (0, .ref e0), (1, .int (nI f)), (2, .ref a0), (3, .ref b0)]) C dX3_placesFrom_4 (by decide) rfl rfl ?_
  have lp_a : ∀ (fu_a : Nat) (i : Nat) (pl : Nat), (i ≤ pn) → (pl = phSet pa f i) → (phOk n fk fs len fw pa f i = true) → (pn - i) < fu_a → G p l e (rmv 2 0 0) s m ([.ref e0, .int (nI f), .ref a0, .ref b0] : List Value).toArray below meth c κ 6 (JP s) [(e0, .inr (2, [.int (nI pr), .ref e1])), (e1, .inl (κ.2 0, pn, .inl (oA pa))), (b0, .inr (4, [.ref b1, .int (nI len)])), (b1, .inl (κ.2 0, 6, .inl (nA fw))), (a0, .inr (3, [.ref a1, .ref a2, .int (nI n)])), (a1, .inl (κ.2 0, 6, .inl (nA fk))), (a2, .inl (κ.2 0, 6, .inl (nA fs)))] 0 0 (MQ below (vp_Si (fun vr_ => vr_ = nI (phAt n fk fs len fw pa pn f))) ([.ref e0, .int (nI f), .ref a0, .ref b0] : List Value).toArray s 0 0 (fun _ => False)) 6 [(5, .int (nI i)), (4, .int (nI pl)), (0, .ref e0), (1, .int (nI f)), (2, .ref a0), (3, .ref b0)] [] := by
    intro fu_a
    induction fu_a with
    | zero => intro i pl hi hpl hok hmu; exact absurd hmu (Nat.not_lt_zero _)
    | succ fu_a ih_a =>
      intro i pl hi hpl hok hmu_a
      refine g_iload (pc' := 8) C 0 dX3_placesFrom_6 rfl rfl ?_
      refine g_aload_n (pc' := 9) C 2 dX3_placesFrom_8 rfl rfl rfl ?_
      refine g_get (pc' := 12) C fl_RX3_9_2 0 rfl rfl dX3_placesFrom_9 rfl ?_
      refine g_alen (pc' := 13) C 1 0 rfl rfl dX3_placesFrom_12 rfl ?_
      refine g_icmp_geN (pc' := 16) (tgt := 65) C (by first | assumption | omega) (by first | assumption | omega) dX3_placesFrom_13 (by decide) rfl (fun c_13_1 => ?_) (fun c_13_1 => ?_)
      · refine g_iload (pc' := 67) C 1 dX3_placesFrom_65 rfl rfl ?_
        exact g_retP C rfl rfl (show nI pl = nI (phAt n fk fs len fw pa pn f) by have e : i = pn := (by omega); subst e; rw [phAt, if_pos hok, hpl]) dX3_placesFrom_67
      · refine g_aload_n (pc' := 17) C 2 dX3_placesFrom_16 rfl rfl rfl ?_
        refine g_get (pc' := 20) C fl_RX3_9_2 0 rfl rfl dX3_placesFrom_17 rfl ?_
        refine g_iload (pc' := 22) C 0 dX3_placesFrom_20 rfl rfl ?_
        refine g_ialdO (pc' := 23) C 1 (f := pa) rfl i (by first | assumption | omega) (by omega) dX3_placesFrom_22 rfl ?_
        refine g_iconst (pc' := 24) (v := (-1)) C dX3_placesFrom_23 (by decide) rfl ?_
        refine g_icmp_eqO (pc' := 27) (tgt := 59) C (fun h q => Nat.lt_trans (hpa _ h q) (by decide)) dX3_placesFrom_24 (by decide) rfl (fun c_24_2 => ?_) (fun v_24_2 c_24_2 => ?_)
        · refine g_iinc (pc' := 62) (v := nI (i + 1)) (lv' := [(5, .int (nI (i + 1))), (4, .int (nI pl)), (0, .ref e0), (1, .int (nI f)), (2, .ref a0), (3, .ref b0)]) C 0 dX3_placesFrom_59 rfl (iincN1 _) (by decide) rfl rfl ?_
          refine g_goto (tgt := 6) C dX3_placesFrom_62 (by decide) ?_
          exact ih_a (i + 1) pl (by first | assumption | omega) (by simp [phSet, *]) (by simp [phOk, *] at *) (by omega)
        · refine g_aload_n (pc' := 28) C 5 dX3_placesFrom_27 rfl rfl rfl ?_
          refine g_iload_n (pc' := 29) C 3 dX3_placesFrom_28 rfl rfl rfl ?_
          refine g_iload (pc' := 31) C 0 dX3_placesFrom_29 rfl rfl ?_
          refine g_iadd (pc' := 32) (v := nI (f + i)) C dX3_placesFrom_31 (nI_add _ _) rfl ?_
          refine g_aload_n (pc' := 33) C 2 dX3_placesFrom_32 rfl rfl rfl ?_
          refine g_get (pc' := 36) C fl_RX3_9_2 0 rfl rfl dX3_placesFrom_33 rfl ?_
          refine g_iload (pc' := 38) C 0 dX3_placesFrom_36 rfl rfl ?_
          refine g_ialdOs (pc' := 39) C 1 (f := pa) rfl i c_24_2 (by first | assumption | omega) (by omega) dX3_placesFrom_38 rfl ?_
          refine g_aload_n (pc' := 40) C 4 dX3_placesFrom_39 rfl rfl rfl ?_
          refine g_callP (pc' := 43) C lk_RX3_29 (kX5_hasFormAt l κ b0 b1 len fw a0 a1 a2 n fk fs (f + i) v_24_2 (by first | assumption | omega) (by first | assumption | omega) (by first | assumption | omega) (hpa _ _ c_24_2)) 2 rfl rfl [2, 3, 4, 5, 6] rfl rfl (Nat.le_of_ble_eq_true rfl) ⟨Nat.le_of_ble_eq_true rfl, Nat.le_of_ble_eq_true rfl⟩ ⟨Nat.le_of_ble_eq_true rfl, Nat.le_of_ble_eq_true rfl⟩ rfl dX3_placesFrom_40 rfl (fun r_40_3 h_40_3 => ?_)
          obtain rfl : r_40_3 = b2i (decide ((f + i) < len) && fm n fk fs (fw (f + i)) v_24_2) := h_40_3
          refine g_if_neB (pc' := 46) (tgt := 48) C dX3_placesFrom_43 (by decide) rfl (fun c_43_4 => ?_) (fun c_43_4 => ?_)
          · refine g_iload (pc' := 50) C 1 dX3_placesFrom_48 rfl rfl ?_
            refine g_iconst (pc' := 51) (v := nI 1) C dX3_placesFrom_50 (by decide) rfl ?_
            refine g_iload_n (pc' := 52) C 3 dX3_placesFrom_51 rfl rfl rfl ?_
            refine g_iload (pc' := 54) C 0 dX3_placesFrom_52 rfl rfl ?_
            refine g_iadd (pc' := 55) (v := nI (f + i)) C dX3_placesFrom_54 (nI_add _ _) rfl ?_
            refine g_ishl (pc' := 56) (v := nI (2 ^ (f + i))) C dX3_placesFrom_55 (nI_shl1 _ (by first | assumption | omega)) rfl ?_
            refine g_ior (pc' := 57) (v := nI (pl ||| (2 ^ (f + i)))) C dX3_placesFrom_56 (nI_or _ _) rfl ?_
            refine g_istore (pc' := 59) (lv' := [(4, .int (nI (pl ||| (2 ^ (f + i))))), (5, .int (nI i)), (0, .ref e0), (1, .int (nI f)), (2, .ref a0), (3, .ref b0)]) C dX3_placesFrom_57 (by decide) rfl rfl ?_
            refine g_iinc (pc' := 62) (v := nI (i + 1)) (lv' := [(5, .int (nI (i + 1))), (4, .int (nI (pl ||| (2 ^ (f + i))))), (0, .ref e0), (1, .int (nI f)), (2, .ref a0), (3, .ref b0)]) C 1 dX3_placesFrom_59 rfl (iincN1 _) (by decide) rfl rfl ?_
            refine g_goto (tgt := 6) C dX3_placesFrom_62 (by decide) ?_
            exact ih_a (i + 1) (pl ||| (2 ^ (f + i))) (by first | assumption | omega) (by simp [phSet, *]) (by simp [phOk, *] at *) (by omega)
          · refine g_iconst (pc' := 47) (v := nI 0) C dX3_placesFrom_46 (by decide) rfl ?_
            exact g_retP C rfl rfl (show nI 0 = nI (phAt n fk fs len fw pa pn f) by rw [phAt, phOk_f (by omega) c_24_2 c_43_4]; rfl) dX3_placesFrom_47
  exact lp_a (pn + 1) 0 0 (Nat.zero_le _) rfl rfl (by omega)

set_option maxHeartbeats 4000000 in
set_option maxRecDepth 100000 in
theorem kX3_find (l : Launch) (κ : KK) (e0 : Nat) (e1 : Nat) (pr : Nat) (pn : Nat) (pa : Nat → Option Nat) (b0 : Nat) (b1 : Nat) (len : Nat) (fw : Nat → Nat) (a0 : Nat) (a1 : Nat) (a2 : Nat) (n : Nat) (fk : Nat → Nat) (fs : Nat → Nat) (q0 : Nat) (q1 : Nat) (q2 : Nat) (q3 : Nat) (cnt : Nat) (fn : Nat → Nat) (fp : Nat → Nat) (fr : Nat → Nat) (L : SL) (en : Nat) (hP : PW pn pa) (hS : SW len fw) (hR : RW n fk fs) (hL : stOK L cnt fn fp fr) (hc : cnt + 15 ≤ 120) : CMv l yX3_find cX3_find 7 none 3 0 0 κ [.ref e0, .int (nI en), .ref a0, .ref b0, .ref q0] [(e0, .inr (2, [.int (nI pr), .ref e1])), (e1, .inl (κ.2 0, pn, .inl (oA pa))), (b0, .inr (4, [.ref b1, .int (nI len)])), (b1, .inl (κ.2 0, 6, .inl (nA fw))), (a0, .inr (3, [.ref a1, .ref a2, .int (nI n)])), (a1, .inl (κ.2 0, 6, .inl (nA fk))), (a2, .inl (κ.2 0, 6, .inl (nA fs))), (q0, .inr (6, [.ref q1, .ref q2, .ref q3, .int (nI cnt)])), (q1, .inl (κ.2 0, 120, .inl (nA fn))), (q2, .inl (κ.2 0, 120, .inl (nA fp))), (q3, .inl (κ.2 0, 120, .inl (nA fr)))] (fun (vw_ : va_W) => ∃ (cnt9 : Nat), ∃ (fn9 : Nat → Nat), ∃ (fp9 : Nat → Nat), ∃ (fr9 : Nat → Nat), (stOK (L ++ phL n fk fs len fw pa pn en pr 6) cnt9 fn9 fp9 fr9) ∧ vw_ = [(e0, .inr (2, [.int (nI pr), .ref e1])), (e1, .inl (κ.2 0, pn, .inl (oA pa))), (b0, .inr (4, [.ref b1, .int (nI len)])), (b1, .inl (κ.2 0, 6, .inl (nA fw))), (a0, .inr (3, [.ref a1, .ref a2, .int (nI n)])), (a1, .inl (κ.2 0, 6, .inl (nA fk))), (a2, .inl (κ.2 0, 6, .inl (nA fs))), (q0, .inr (6, [.ref q1, .ref q2, .ref q3, .int (nI cnt9)])), (q1, .inl (κ.2 0, 120, .inl (nA fn9))), (q2, .inl (κ.2 0, 120, .inl (nA fp9))), (q3, .inl (κ.2 0, 120, .inl (nA fr9)))]) := by
  refine cmv_of RX3 rfl (by decide) (Nat.le_of_ble_eq_true rfl) ?_
  intro p e s m below meth c A C hAe hA hini
  refine g_lv (lv' := [(0, .ref e0), (1, .int (nI en)), (2, .ref a0), (3, .ref b0), (4, .ref q0)]) [0, 1, 2, 3, 4] rfl ?_
  refine g_iconst (pc' := 1) (v := nI 0) C dX3_find_0 (by decide) rfl ?_
  refine g_istore (pc' := 3) (lv' := [(5, .int (nI 0)), (0, .ref e0), (1, .int (nI en)), (2, .ref a0), (3, .ref b0), (4, .ref q0)]) C dX3_find_1 (by decide) rfl rfl ?_
  have lp_a : ∀ (fu_a : Nat) (f : Nat) (ct : Nat) (gn : Nat → Nat) (gp : Nat → Nat) (gr : Nat → Nat), (f ≤ 6) → (stOK (L ++ phL n fk fs len fw pa pn en pr f) ct gn gp gr) → (6 - f) < fu_a → G p l e (rmv 3 0 0) s m ([.ref e0, .int (nI en), .ref a0, .ref b0, .ref q0] : List Value).toArray below meth c κ 7 (JM A s) [(e0, .inr (2, [.int (nI pr), .ref e1])), (e1, .inl (κ.2 0, pn, .inl (oA pa))), (b0, .inr (4, [.ref b1, .int (nI len)])), (b1, .inl (κ.2 0, 6, .inl (nA fw))), (a0, .inr (3, [.ref a1, .ref a2, .int (nI n)])), (a1, .inl (κ.2 0, 6, .inl (nA fk))), (a2, .inl (κ.2 0, 6, .inl (nA fs))), (q0, .inr (6, [.ref q1, .ref q2, .ref q3, .int (nI ct)])), (q1, .inl (κ.2 0, 120, .inl (nA gn))), (q2, .inl (κ.2 0, 120, .inl (nA gp))), (q3, .inl (κ.2 0, 120, .inl (nA gr)))] 0 0 (MQ below (QMv κ [(e0, .inr (2, [.int (nI pr), .ref e1])), (e1, .inl (κ.2 0, pn, .inl (oA pa))), (b0, .inr (4, [.ref b1, .int (nI len)])), (b1, .inl (κ.2 0, 6, .inl (nA fw))), (a0, .inr (3, [.ref a1, .ref a2, .int (nI n)])), (a1, .inl (κ.2 0, 6, .inl (nA fk))), (a2, .inl (κ.2 0, 6, .inl (nA fs))), (q0, .inr (6, [.ref q1, .ref q2, .ref q3, .int (nI cnt)])), (q1, .inl (κ.2 0, 120, .inl (nA fn))), (q2, .inl (κ.2 0, 120, .inl (nA fp))), (q3, .inl (κ.2 0, 120, .inl (nA fr)))] s.heap.size (fun (vw_ : va_W) => ∃ (cnt9 : Nat), ∃ (fn9 : Nat → Nat), ∃ (fp9 : Nat → Nat), ∃ (fr9 : Nat → Nat), (stOK (L ++ phL n fk fs len fw pa pn en pr 6) cnt9 fn9 fp9 fr9) ∧ vw_ = [(e0, .inr (2, [.int (nI pr), .ref e1])), (e1, .inl (κ.2 0, pn, .inl (oA pa))), (b0, .inr (4, [.ref b1, .int (nI len)])), (b1, .inl (κ.2 0, 6, .inl (nA fw))), (a0, .inr (3, [.ref a1, .ref a2, .int (nI n)])), (a1, .inl (κ.2 0, 6, .inl (nA fk))), (a2, .inl (κ.2 0, 6, .inl (nA fs))), (q0, .inr (6, [.ref q1, .ref q2, .ref q3, .int (nI cnt9)])), (q1, .inl (κ.2 0, 120, .inl (nA fn9))), (q2, .inl (κ.2 0, 120, .inl (nA fp9))), (q3, .inl (κ.2 0, 120, .inl (nA fr9)))])) ([.ref e0, .int (nI en), .ref a0, .ref b0, .ref q0] : List Value).toArray s 0 0 A) 3 [(5, .int (nI f)), (0, .ref e0), (1, .int (nI en)), (2, .ref a0), (3, .ref b0), (4, .ref q0)] [] := by
    intro fu_a
    induction fu_a with
    | zero => intro f ct gn gp gr hf hst hmu; exact absurd hmu (Nat.not_lt_zero _)
    | succ fu_a ih_a =>
      intro f ct gn gp gr hf hst hmu_a
      refine g_iload (pc' := 5) C 0 dX3_find_3 rfl rfl ?_
      refine g_bipush (pc' := 7) (v := nI 6) C dX3_find_5 (by decide) rfl ?_
      refine g_icmp_geN (pc' := 10) (tgt := 43) C (by first | assumption | omega) (by first | assumption | omega) dX3_find_7 (by decide) rfl (fun c_7_1 => ?_) (fun c_7_1 => ?_)
      · exact g_retMv C hAe rfl (Nat.le_of_ble_eq_true rfl) (Nat.le_of_ble_eq_true rfl) (⟨ct, gn, gp, gr, by have e : f = 6 := (by omega); subst e; exact hst, rfl⟩) dX3_find_43
      · refine g_aload_n (pc' := 11) C 1 dX3_find_10 rfl rfl rfl ?_
        refine g_iload (pc' := 13) C 0 dX3_find_11 rfl rfl ?_
        refine g_aload_n (pc' := 14) C 3 dX3_find_13 rfl rfl rfl ?_
        refine g_aload_n (pc' := 15) C 4 dX3_find_14 rfl rfl rfl ?_
        refine g_callP (pc' := 18) C lk_RX3_15 (kX3_placesFrom l κ e0 e1 pr pn pa b0 b1 len fw a0 a1 a2 n fk fs f (by first | assumption | omega) (by first | assumption | omega) (by first | assumption | omega) (by first | assumption | omega)) 0 rfl rfl [0, 1, 2, 3, 4, 5, 6] rfl rfl (Nat.le_of_ble_eq_true rfl) ⟨Nat.le_of_ble_eq_true rfl, Nat.le_of_ble_eq_true rfl⟩ ⟨Nat.le_of_ble_eq_true rfl, Nat.le_of_ble_eq_true rfl⟩ rfl dX3_find_15 rfl (fun r_15_2 h_15_2 => ?_)
        obtain rfl : r_15_2 = nI (phAt n fk fs len fw pa pn f) := h_15_2
        refine g_istore (pc' := 20) (lv' := [(6, .int (nI (phAt n fk fs len fw pa pn f))), (5, .int (nI f)), (0, .ref e0), (1, .int (nI en)), (2, .ref a0), (3, .ref b0), (4, .ref q0)]) C dX3_find_18 (by decide) rfl rfl ?_
        refine g_iload (pc' := 22) C 0 dX3_find_20 rfl rfl ?_
        refine g_if_eqN (pc' := 25) (tgt := 37) C (Nat.lt_trans (phAt_lt hP hS hR (by omega)) (by decide)) dX3_find_22 (by decide) rfl (fun c_22_3 => ?_) (fun c_22_3 => ?_)
        · refine g_iinc (pc' := 40) (v := nI (f + 1)) (lv' := [(5, .int (nI (f + 1))), (6, .int (nI (phAt n fk fs len fw pa pn f))), (0, .ref e0), (1, .int (nI en)), (2, .ref a0), (3, .ref b0), (4, .ref q0)]) C 1 dX3_find_37 rfl (iincN1 _) (by decide) rfl rfl ?_
          refine g_goto (tgt := 3) C dX3_find_40 (by decide) ?_
          refine g_lv (lv' := [(5, .int (nI (f + 1))), (0, .ref e0), (1, .int (nI en)), (2, .ref a0), (3, .ref b0), (4, .ref q0)]) [0, 2, 3, 4, 5, 6] rfl ?_
          exact ih_a (f + 1) ct gn gp gr (by first | assumption | omega) (by rw [phL, if_pos c_22_3, List.append_nil]; exact hst) (by omega)
        · refine g_aload (pc' := 27) C 6 dX3_find_25 rfl rfl ?_
          refine g_iload_n (pc' := 28) C 3 dX3_find_27 rfl rfl rfl ?_
          refine g_iload (pc' := 30) C 0 dX3_find_28 rfl rfl ?_
          refine g_aload_n (pc' := 31) C 2 dX3_find_30 rfl rfl rfl ?_
          refine g_get (pc' := 34) C fl_RX3_19_2 0 rfl rfl dX3_find_31 rfl ?_
          refine g_callMv (pc' := 37) (wr := [(e0, .inr (2, [.int (nI pr), .ref e1])), (e1, .inl (κ.2 0, pn, .inl (oA pa))), (b0, .inr (4, [.ref b1, .int (nI len)])), (b1, .inl (κ.2 0, 6, .inl (nA fw))), (a0, .inr (3, [.ref a1, .ref a2, .int (nI n)])), (a1, .inl (κ.2 0, 6, .inl (nA fk))), (a2, .inl (κ.2 0, 6, .inl (nA fs)))]) C hA lk_RX3_23 (kX7_put l κ q0 q1 q2 q3 ct gn gp gr en (phAt n fk fs len fw pa pn f) pr (by have h1 := hst.1; have h2 := hL.1; have h3 := phL_len (n := n) (fk := fk) (fs := fs) (len := len) (fw := fw) (pa := pa) (pn := pn) (en := en) (pr := pr) f; simp only [List.length_append] at h1; omega)) 7 rfl rfl [7, 8, 9, 10] [0, 1, 2, 3, 4, 5, 6] rfl rfl ⟨rfl, rfl, by decide⟩ rfl (Nat.le_of_ble_eq_true rfl) ⟨Nat.le_of_ble_eq_true rfl, Nat.le_of_ble_eq_true rfl⟩ ⟨Nat.le_of_ble_eq_true rfl, Nat.le_of_ble_eq_true rfl⟩ rfl dX3_find_34 rfl (fun w_34_4 h_34_4 => ?_)
          obtain rfl : w_34_4 = [(q0, .inr (6, [.ref q1, .ref q2, .ref q3, .int (nI (ct + 1))])), (q1, .inl (κ.2 0, 120, .inl (nA (va_up gn ct en)))), (q2, .inl (κ.2 0, 120, .inl (nA (va_up gp ct (phAt n fk fs len fw pa pn f))))), (q3, .inl (κ.2 0, 120, .inl (nA (va_up gr ct pr))))] := h_34_4
          show G p l e (rmv 3 0 0) s m ([.ref e0, .int (nI en), .ref a0, .ref b0, .ref q0] : List Value).toArray below meth c κ 7 (JM A s) [(e0, .inr (2, [.int (nI pr), .ref e1])), (e1, .inl (κ.2 0, pn, .inl (oA pa))), (b0, .inr (4, [.ref b1, .int (nI len)])), (b1, .inl (κ.2 0, 6, .inl (nA fw))), (a0, .inr (3, [.ref a1, .ref a2, .int (nI n)])), (a1, .inl (κ.2 0, 6, .inl (nA fk))), (a2, .inl (κ.2 0, 6, .inl (nA fs))), (q0, .inr (6, [.ref q1, .ref q2, .ref q3, .int (nI (ct + 1))])), (q1, .inl (κ.2 0, 120, .inl (nA (va_up gn ct en)))), (q2, .inl (κ.2 0, 120, .inl (nA (va_up gp ct (phAt n fk fs len fw pa pn f))))), (q3, .inl (κ.2 0, 120, .inl (nA (va_up gr ct pr))))] 0 0 (MQ below (QMv κ [(e0, .inr (2, [.int (nI pr), .ref e1])), (e1, .inl (κ.2 0, pn, .inl (oA pa))), (b0, .inr (4, [.ref b1, .int (nI len)])), (b1, .inl (κ.2 0, 6, .inl (nA fw))), (a0, .inr (3, [.ref a1, .ref a2, .int (nI n)])), (a1, .inl (κ.2 0, 6, .inl (nA fk))), (a2, .inl (κ.2 0, 6, .inl (nA fs))), (q0, .inr (6, [.ref q1, .ref q2, .ref q3, .int (nI cnt)])), (q1, .inl (κ.2 0, 120, .inl (nA fn))), (q2, .inl (κ.2 0, 120, .inl (nA fp))), (q3, .inl (κ.2 0, 120, .inl (nA fr)))] s.heap.size (fun (vw_ : va_W) => ∃ (cnt9 : Nat), ∃ (fn9 : Nat → Nat), ∃ (fp9 : Nat → Nat), ∃ (fr9 : Nat → Nat), (stOK (L ++ phL n fk fs len fw pa pn en pr 6) cnt9 fn9 fp9 fr9) ∧ vw_ = [(e0, .inr (2, [.int (nI pr), .ref e1])), (e1, .inl (κ.2 0, pn, .inl (oA pa))), (b0, .inr (4, [.ref b1, .int (nI len)])), (b1, .inl (κ.2 0, 6, .inl (nA fw))), (a0, .inr (3, [.ref a1, .ref a2, .int (nI n)])), (a1, .inl (κ.2 0, 6, .inl (nA fk))), (a2, .inl (κ.2 0, 6, .inl (nA fs))), (q0, .inr (6, [.ref q1, .ref q2, .ref q3, .int (nI cnt9)])), (q1, .inl (κ.2 0, 120, .inl (nA fn9))), (q2, .inl (κ.2 0, 120, .inl (nA fp9))), (q3, .inl (κ.2 0, 120, .inl (nA fr9)))])) ([.ref e0, .int (nI en), .ref a0, .ref b0, .ref q0] : List Value).toArray s 0 0 A) 37 [(6, .int (nI (phAt n fk fs len fw pa pn f))), (5, .int (nI f)), (0, .ref e0), (1, .int (nI en)), (2, .ref a0), (3, .ref b0), (4, .ref q0)] []
          refine g_iinc (pc' := 40) (v := nI (f + 1)) (lv' := [(5, .int (nI (f + 1))), (6, .int (nI (phAt n fk fs len fw pa pn f))), (0, .ref e0), (1, .int (nI en)), (2, .ref a0), (3, .ref b0), (4, .ref q0)]) C 1 dX3_find_37 rfl (iincN1 _) (by decide) rfl rfl ?_
          refine g_goto (tgt := 3) C dX3_find_40 (by decide) ?_
          refine g_lv (lv' := [(5, .int (nI (f + 1))), (0, .ref e0), (1, .int (nI en)), (2, .ref a0), (3, .ref b0), (4, .ref q0)]) [0, 2, 3, 4, 5, 6] rfl ?_
          exact ih_a (f + 1) (ct + 1) (va_up gn ct en) (va_up gp ct (phAt n fk fs len fw pa pn f)) (va_up gr ct pr) (by first | assumption | omega) (by rw [phL, if_neg c_22_3, ← List.append_assoc]; exact stOK_put hst _ _ _) (by omega)
  exact lp_a 7 0 cnt fn fp fr (Nat.zero_le _) (by simpa [phL] using hL) (by omega)

set_option maxHeartbeats 4000000 in
set_option maxRecDepth 100000 in
theorem kX6_findFrom (l : Launch) (κ : KK) (e0 : Nat) (pr : Nat) (fst : Nat) (sec : Nat) (rch : Nat) (b0 : Nat) (b1 : Nat) (len : Nat) (fw : Nat → Nat) (a0 : Nat) (a1 : Nat) (a2 : Nat) (n : Nat) (fk : Nat → Nat) (fs : Nat → Nat) (q0 : Nat) (q1 : Nat) (q2 : Nat) (q3 : Nat) (cnt : Nat) (fn : Nat → Nat) (fp : Nat → Nat) (fr : Nat → Nat) (L : SL) (f : Nat) (en : Nat) (hQ : fst < 100 ∧ sec < 100 ∧ rch ≤ 4) (hS : SW len fw) (hR : RW n fk fs) (hL : stOK L cnt fn fp fr) (hf : f < 6) (hc : ∀ b, f + 1 + b < len → L.length + (spB n fk fs len fw en pr sec f b).length < 120) : CMv l yX6_findFrom cX6_findFrom 8 none 3 0 0 κ [.ref e0, .int (nI f), .int (nI en), .ref a0, .ref b0, .ref q0] [(e0, .inr (5, [.int (nI pr), .int (nI fst), .int (nI sec), .int (nI rch)])), (b0, .inr (4, [.ref b1, .int (nI len)])), (b1, .inl (κ.2 0, 6, .inl (nA fw))), (a0, .inr (3, [.ref a1, .ref a2, .int (nI n)])), (a1, .inl (κ.2 0, 6, .inl (nA fk))), (a2, .inl (κ.2 0, 6, .inl (nA fs))), (q0, .inr (6, [.ref q1, .ref q2, .ref q3, .int (nI cnt)])), (q1, .inl (κ.2 0, 120, .inl (nA fn))), (q2, .inl (κ.2 0, 120, .inl (nA fp))), (q3, .inl (κ.2 0, 120, .inl (nA fr)))] (fun (vw_ : va_W) => ∃ (cnt9 : Nat), ∃ (fn9 : Nat → Nat), ∃ (fp9 : Nat → Nat), ∃ (fr9 : Nat → Nat), (stOK (L ++ spB n fk fs len fw en pr sec f (rch + 1)) cnt9 fn9 fp9 fr9) ∧ vw_ = [(e0, .inr (5, [.int (nI pr), .int (nI fst), .int (nI sec), .int (nI rch)])), (b0, .inr (4, [.ref b1, .int (nI len)])), (b1, .inl (κ.2 0, 6, .inl (nA fw))), (a0, .inr (3, [.ref a1, .ref a2, .int (nI n)])), (a1, .inl (κ.2 0, 6, .inl (nA fk))), (a2, .inl (κ.2 0, 6, .inl (nA fs))), (q0, .inr (6, [.ref q1, .ref q2, .ref q3, .int (nI cnt9)])), (q1, .inl (κ.2 0, 120, .inl (nA fn9))), (q2, .inl (κ.2 0, 120, .inl (nA fp9))), (q3, .inl (κ.2 0, 120, .inl (nA fr9)))]) := by
  refine cmv_of RX6 rfl (by decide) (Nat.le_of_ble_eq_true rfl) ?_
  intro p e s m below meth c A C hAe hA hini
  refine g_lv (lv' := [(0, .ref e0), (1, .int (nI f)), (2, .int (nI en)), (3, .ref a0), (4, .ref b0), (5, .ref q0)]) [0, 1, 2, 3, 4, 5] rfl ?_
  obtain ⟨h1, h2, h3⟩ := hQ
  refine g_iconst (pc' := 1) (v := nI 0) C dX6_findFrom_0 (by decide) rfl ?_
  refine g_istore (pc' := 3) (lv' := [(6, .int (nI 0)), (0, .ref e0), (1, .int (nI f)), (2, .int (nI en)), (3, .ref a0), (4, .ref b0), (5, .ref q0)]) C dX6_findFrom_1 (by decide) rfl rfl ?_
  have lp_b : ∀ (fu_b : Nat) (b : Nat) (ct : Nat) (gn : Nat → Nat) (gp : Nat → Nat) (gr : Nat → Nat), (b ≤ rch + 1) → (stOK (L ++ spB n fk fs len fw en pr sec f b) ct gn gp gr) → (rch + 1 - b) < fu_b → G p l e (rmv 3 0 0) s m ([.ref e0, .int (nI f), .int (nI en), .ref a0, .ref b0, .ref q0] : List Value).toArray below meth c κ 8 (JM A s) [(e0, .inr (5, [.int (nI pr), .int (nI fst), .int (nI sec), .int (nI rch)])), (b0, .inr (4, [.ref b1, .int (nI len)])), (b1, .inl (κ.2 0, 6, .inl (nA fw))), (a0, .inr (3, [.ref a1, .ref a2, .int (nI n)])), (a1, .inl (κ.2 0, 6, .inl (nA fk))), (a2, .inl (κ.2 0, 6, .inl (nA fs))), (q0, .inr (6, [.ref q1, .ref q2, .ref q3, .int (nI ct)])), (q1, .inl (κ.2 0, 120, .inl (nA gn))), (q2, .inl (κ.2 0, 120, .inl (nA gp))), (q3, .inl (κ.2 0, 120, .inl (nA gr)))] 0 0 (MQ below (QMv κ [(e0, .inr (5, [.int (nI pr), .int (nI fst), .int (nI sec), .int (nI rch)])), (b0, .inr (4, [.ref b1, .int (nI len)])), (b1, .inl (κ.2 0, 6, .inl (nA fw))), (a0, .inr (3, [.ref a1, .ref a2, .int (nI n)])), (a1, .inl (κ.2 0, 6, .inl (nA fk))), (a2, .inl (κ.2 0, 6, .inl (nA fs))), (q0, .inr (6, [.ref q1, .ref q2, .ref q3, .int (nI cnt)])), (q1, .inl (κ.2 0, 120, .inl (nA fn))), (q2, .inl (κ.2 0, 120, .inl (nA fp))), (q3, .inl (κ.2 0, 120, .inl (nA fr)))] s.heap.size (fun (vw_ : va_W) => ∃ (cnt9 : Nat), ∃ (fn9 : Nat → Nat), ∃ (fp9 : Nat → Nat), ∃ (fr9 : Nat → Nat), (stOK (L ++ spB n fk fs len fw en pr sec f (rch + 1)) cnt9 fn9 fp9 fr9) ∧ vw_ = [(e0, .inr (5, [.int (nI pr), .int (nI fst), .int (nI sec), .int (nI rch)])), (b0, .inr (4, [.ref b1, .int (nI len)])), (b1, .inl (κ.2 0, 6, .inl (nA fw))), (a0, .inr (3, [.ref a1, .ref a2, .int (nI n)])), (a1, .inl (κ.2 0, 6, .inl (nA fk))), (a2, .inl (κ.2 0, 6, .inl (nA fs))), (q0, .inr (6, [.ref q1, .ref q2, .ref q3, .int (nI cnt9)])), (q1, .inl (κ.2 0, 120, .inl (nA fn9))), (q2, .inl (κ.2 0, 120, .inl (nA fp9))), (q3, .inl (κ.2 0, 120, .inl (nA fr9)))])) ([.ref e0, .int (nI f), .int (nI en), .ref a0, .ref b0, .ref q0] : List Value).toArray s 0 0 A) 3 [(6, .int (nI b)), (0, .ref e0), (1, .int (nI f)), (2, .int (nI en)), (3, .ref a0), (4, .ref b0), (5, .ref q0)] [] := by
    intro fu_b
    induction fu_b with
    | zero => intro b ct gn gp gr hb hst hmu; exact absurd hmu (Nat.not_lt_zero _)
    | succ fu_b ih_b =>
      intro b ct gn gp gr hb hst hmu_b
      refine g_iload (pc' := 5) C 0 dX6_findFrom_3 rfl rfl ?_
      refine g_aload_n (pc' := 6) C 1 dX6_findFrom_5 rfl rfl rfl ?_
      refine g_get (pc' := 9) C fl_RX6_18_5 0 rfl rfl dX6_findFrom_6 rfl ?_
      refine g_icmp_gtN (pc' := 12) (tgt := 59) C (by first | assumption | omega) (by first | assumption | omega) dX6_findFrom_9 (by decide) rfl (fun c_9_1 => ?_) (fun c_9_1 => ?_)
      · exact g_retMv C hAe rfl (Nat.le_of_ble_eq_true rfl) (Nat.le_of_ble_eq_true rfl) (⟨ct, gn, gp, gr, by have e : b = rch + 1 := (by omega); subst e; exact hst, rfl⟩) dX6_findFrom_59
      · refine g_iload_n (pc' := 13) C 2 dX6_findFrom_12 rfl rfl rfl ?_
        refine g_iconst (pc' := 14) (v := nI 1) C dX6_findFrom_13 (by decide) rfl ?_
        refine g_iadd (pc' := 15) (v := nI (f + 1)) C dX6_findFrom_14 (nI_add _ _) rfl ?_
        refine g_iload (pc' := 17) C 0 dX6_findFrom_15 rfl rfl ?_
        refine g_iadd (pc' := 18) (v := nI ((f + 1) + b)) C dX6_findFrom_17 (nI_add _ _) rfl ?_
        refine g_istore (pc' := 20) (lv' := [(7, .int (nI ((f + 1) + b))), (6, .int (nI b)), (0, .ref e0), (1, .int (nI f)), (2, .int (nI en)), (3, .ref a0), (4, .ref b0), (5, .ref q0)]) C dX6_findFrom_18 (by decide) rfl rfl ?_
        refine g_aload (pc' := 22) C 6 dX6_findFrom_20 rfl rfl ?_
        refine g_iload (pc' := 24) C 0 dX6_findFrom_22 rfl rfl ?_
        refine g_aload_n (pc' := 25) C 2 dX6_findFrom_24 rfl rfl rfl ?_
        refine g_get (pc' := 28) C fl_RX6_15_5 0 rfl rfl dX6_findFrom_25 rfl ?_
        refine g_aload_n (pc' := 29) C 5 dX6_findFrom_28 rfl rfl rfl ?_
        refine g_callP (pc' := 32) C lk_RX6_21 (kX5_hasFormAt l κ b0 b1 len fw a0 a1 a2 n fk fs ((f + 1) + b) sec (by first | assumption | omega) (by first | assumption | omega) (by first | assumption | omega) (by first | assumption | omega)) 1 rfl rfl [1, 2, 3, 4, 5] rfl rfl (Nat.le_of_ble_eq_true rfl) ⟨Nat.le_of_ble_eq_true rfl, Nat.le_of_ble_eq_true rfl⟩ ⟨Nat.le_of_ble_eq_true rfl, Nat.le_of_ble_eq_true rfl⟩ rfl dX6_findFrom_29 rfl (fun r_29_2 h_29_2 => ?_)
        obtain rfl : r_29_2 = b2i (decide (((f + 1) + b) < len) && fm n fk fs (fw ((f + 1) + b)) sec) := h_29_2
        refine g_if_eqB (pc' := 35) (tgt := 53) C dX6_findFrom_32 (by decide) rfl (fun c_32_3 => ?_) (fun c_32_3 => ?_)
        · refine g_iinc (pc' := 56) (v := nI (b + 1)) (lv' := [(6, .int (nI (b + 1))), (7, .int (nI ((f + 1) + b))), (0, .ref e0), (1, .int (nI f)), (2, .int (nI en)), (3, .ref a0), (4, .ref b0), (5, .ref q0)]) C 1 dX6_findFrom_53 rfl (iincN1 _) (by decide) rfl rfl ?_
          refine g_goto (tgt := 3) C dX6_findFrom_56 (by decide) ?_
          refine g_lv (lv' := [(6, .int (nI (b + 1))), (0, .ref e0), (1, .int (nI f)), (2, .int (nI en)), (3, .ref a0), (4, .ref b0), (5, .ref q0)]) [0, 2, 3, 4, 5, 6, 7] rfl ?_
          exact ih_b (b + 1) ct gn gp gr (by first | assumption | omega) (by rw [spB, if_neg (by rw [c_32_3]; decide), List.append_nil]; exact hst) (by omega)
        · refine g_aload (pc' := 37) C 7 dX6_findFrom_35 rfl rfl ?_
          refine g_iload_n (pc' := 38) C 4 dX6_findFrom_37 rfl rfl rfl ?_
          refine g_iconst (pc' := 39) (v := nI 1) C dX6_findFrom_38 (by decide) rfl ?_
          refine g_iload_n (pc' := 40) C 3 dX6_findFrom_39 rfl rfl rfl ?_
          refine g_ishl (pc' := 41) (v := nI (2 ^ f)) C dX6_findFrom_40 (nI_shl1 _ (by first | assumption | omega)) rfl ?_
          refine g_iconst (pc' := 42) (v := nI 1) C dX6_findFrom_41 (by decide) rfl ?_
          refine g_iload (pc' := 44) C 0 dX6_findFrom_42 rfl rfl ?_
          refine g_ishl (pc' := 45) (v := nI (2 ^ ((f + 1) + b))) C dX6_findFrom_44 (nI_shl1 _ (by first | assumption | omega)) rfl ?_
          refine g_ior (pc' := 46) (v := nI ((2 ^ f) ||| (2 ^ ((f + 1) + b)))) C dX6_findFrom_45 (nI_or _ _) rfl ?_
          refine g_aload_n (pc' := 47) C 2 dX6_findFrom_46 rfl rfl rfl ?_
          refine g_get (pc' := 50) C fl_RX6_31_5 0 rfl rfl dX6_findFrom_47 rfl ?_
          refine g_callMv (pc' := 53) (wr := [(e0, .inr (5, [.int (nI pr), .int (nI fst), .int (nI sec), .int (nI rch)])), (b0, .inr (4, [.ref b1, .int (nI len)])), (b1, .inl (κ.2 0, 6, .inl (nA fw))), (a0, .inr (3, [.ref a1, .ref a2, .int (nI n)])), (a1, .inl (κ.2 0, 6, .inl (nA fk))), (a2, .inl (κ.2 0, 6, .inl (nA fs)))]) C hA lk_RX6_34 (kX7_put l κ q0 q1 q2 q3 ct gn gp gr en ((2 ^ f) ||| (2 ^ ((f + 1) + b))) pr (by have h1 := hst.1; simp only [List.length_append] at h1; have h9 := hc b (by have h8 := (Bool.and_eq_true _ _).mp c_32_3; have h7 := of_decide_eq_true h8.1; omega); omega)) 6 rfl rfl [6, 7, 8, 9] [0, 1, 2, 3, 4, 5] rfl rfl ⟨rfl, rfl, by decide⟩ rfl (Nat.le_of_ble_eq_true rfl) ⟨Nat.le_of_ble_eq_true rfl, Nat.le_of_ble_eq_true rfl⟩ ⟨Nat.le_of_ble_eq_true rfl, Nat.le_of_ble_eq_true rfl⟩ rfl dX6_findFrom_50 rfl (fun w_50_4 h_50_4 => ?_)
          obtain rfl : w_50_4 = [(q0, .inr (6, [.ref q1, .ref q2, .ref q3, .int (nI (ct + 1))])), (q1, .inl (κ.2 0, 120, .inl (nA (va_up gn ct en)))), (q2, .inl (κ.2 0, 120, .inl (nA (va_up gp ct ((2 ^ f) ||| (2 ^ ((f + 1) + b))))))), (q3, .inl (κ.2 0, 120, .inl (nA (va_up gr ct pr))))] := h_50_4
          show G p l e (rmv 3 0 0) s m ([.ref e0, .int (nI f), .int (nI en), .ref a0, .ref b0, .ref q0] : List Value).toArray below meth c κ 8 (JM A s) [(e0, .inr (5, [.int (nI pr), .int (nI fst), .int (nI sec), .int (nI rch)])), (b0, .inr (4, [.ref b1, .int (nI len)])), (b1, .inl (κ.2 0, 6, .inl (nA fw))), (a0, .inr (3, [.ref a1, .ref a2, .int (nI n)])), (a1, .inl (κ.2 0, 6, .inl (nA fk))), (a2, .inl (κ.2 0, 6, .inl (nA fs))), (q0, .inr (6, [.ref q1, .ref q2, .ref q3, .int (nI (ct + 1))])), (q1, .inl (κ.2 0, 120, .inl (nA (va_up gn ct en)))), (q2, .inl (κ.2 0, 120, .inl (nA (va_up gp ct ((2 ^ f) ||| (2 ^ ((f + 1) + b))))))), (q3, .inl (κ.2 0, 120, .inl (nA (va_up gr ct pr))))] 0 0 (MQ below (QMv κ [(e0, .inr (5, [.int (nI pr), .int (nI fst), .int (nI sec), .int (nI rch)])), (b0, .inr (4, [.ref b1, .int (nI len)])), (b1, .inl (κ.2 0, 6, .inl (nA fw))), (a0, .inr (3, [.ref a1, .ref a2, .int (nI n)])), (a1, .inl (κ.2 0, 6, .inl (nA fk))), (a2, .inl (κ.2 0, 6, .inl (nA fs))), (q0, .inr (6, [.ref q1, .ref q2, .ref q3, .int (nI cnt)])), (q1, .inl (κ.2 0, 120, .inl (nA fn))), (q2, .inl (κ.2 0, 120, .inl (nA fp))), (q3, .inl (κ.2 0, 120, .inl (nA fr)))] s.heap.size (fun (vw_ : va_W) => ∃ (cnt9 : Nat), ∃ (fn9 : Nat → Nat), ∃ (fp9 : Nat → Nat), ∃ (fr9 : Nat → Nat), (stOK (L ++ spB n fk fs len fw en pr sec f (rch + 1)) cnt9 fn9 fp9 fr9) ∧ vw_ = [(e0, .inr (5, [.int (nI pr), .int (nI fst), .int (nI sec), .int (nI rch)])), (b0, .inr (4, [.ref b1, .int (nI len)])), (b1, .inl (κ.2 0, 6, .inl (nA fw))), (a0, .inr (3, [.ref a1, .ref a2, .int (nI n)])), (a1, .inl (κ.2 0, 6, .inl (nA fk))), (a2, .inl (κ.2 0, 6, .inl (nA fs))), (q0, .inr (6, [.ref q1, .ref q2, .ref q3, .int (nI cnt9)])), (q1, .inl (κ.2 0, 120, .inl (nA fn9))), (q2, .inl (κ.2 0, 120, .inl (nA fp9))), (q3, .inl (κ.2 0, 120, .inl (nA fr9)))])) ([.ref e0, .int (nI f), .int (nI en), .ref a0, .ref b0, .ref q0] : List Value).toArray s 0 0 A) 53 [(7, .int (nI ((f + 1) + b))), (6, .int (nI b)), (0, .ref e0), (1, .int (nI f)), (2, .int (nI en)), (3, .ref a0), (4, .ref b0), (5, .ref q0)] []
          refine g_iinc (pc' := 56) (v := nI (b + 1)) (lv' := [(6, .int (nI (b + 1))), (7, .int (nI ((f + 1) + b))), (0, .ref e0), (1, .int (nI f)), (2, .int (nI en)), (3, .ref a0), (4, .ref b0), (5, .ref q0)]) C 1 dX6_findFrom_53 rfl (iincN1 _) (by decide) rfl rfl ?_
          refine g_goto (tgt := 3) C dX6_findFrom_56 (by decide) ?_
          refine g_lv (lv' := [(6, .int (nI (b + 1))), (0, .ref e0), (1, .int (nI f)), (2, .int (nI en)), (3, .ref a0), (4, .ref b0), (5, .ref q0)]) [0, 2, 3, 4, 5, 6, 7] rfl ?_
          exact ih_b (b + 1) (ct + 1) (va_up gn ct en) (va_up gp ct ((2 ^ f) ||| (2 ^ ((f + 1) + b)))) (va_up gr ct pr) (by first | assumption | omega) (by rw [spB, if_pos c_32_3, ← List.append_assoc]; exact stOK_put hst _ _ _) (by omega)
  exact lp_b 7 0 cnt fn fp fr (Nat.zero_le _) (by simpa [spB] using hL) (by omega)

set_option maxHeartbeats 4000000 in
set_option maxRecDepth 100000 in
theorem kX6_find (l : Launch) (κ : KK) (e0 : Nat) (pr : Nat) (fst : Nat) (sec : Nat) (rch : Nat) (b0 : Nat) (b1 : Nat) (len : Nat) (fw : Nat → Nat) (a0 : Nat) (a1 : Nat) (a2 : Nat) (n : Nat) (fk : Nat → Nat) (fs : Nat → Nat) (q0 : Nat) (q1 : Nat) (q2 : Nat) (q3 : Nat) (cnt : Nat) (fn : Nat → Nat) (fp : Nat → Nat) (fr : Nat → Nat) (L : SL) (en : Nat) (hQ : fst < 100 ∧ sec < 100 ∧ rch ≤ 4) (hS : SW len fw) (hR : RW n fk fs) (hL : stOK L cnt fn fp fr) (hc : cnt + 15 ≤ 120) : CMv l yX6_find cX6_find 6 none 4 0 0 κ [.ref e0, .int (nI en), .ref a0, .ref b0, .ref q0] [(e0, .inr (5, [.int (nI pr), .int (nI fst), .int (nI sec), .int (nI rch)])), (b0, .inr (4, [.ref b1, .int (nI len)])), (b1, .inl (κ.2 0, 6, .inl (nA fw))), (a0, .inr (3, [.ref a1, .ref a2, .int (nI n)])), (a1, .inl (κ.2 0, 6, .inl (nA fk))), (a2, .inl (κ.2 0, 6, .inl (nA fs))), (q0, .inr (6, [.ref q1, .ref q2, .ref q3, .int (nI cnt)])), (q1, .inl (κ.2 0, 120, .inl (nA fn))), (q2, .inl (κ.2 0, 120, .inl (nA fp))), (q3, .inl (κ.2 0, 120, .inl (nA fr)))] (fun (vw_ : va_W) => ∃ (cnt9 : Nat), ∃ (fn9 : Nat → Nat), ∃ (fp9 : Nat → Nat), ∃ (fr9 : Nat → Nat), (stOK (L ++ spL n fk fs len fw en pr fst sec rch 6) cnt9 fn9 fp9 fr9) ∧ vw_ = [(e0, .inr (5, [.int (nI pr), .int (nI fst), .int (nI sec), .int (nI rch)])), (b0, .inr (4, [.ref b1, .int (nI len)])), (b1, .inl (κ.2 0, 6, .inl (nA fw))), (a0, .inr (3, [.ref a1, .ref a2, .int (nI n)])), (a1, .inl (κ.2 0, 6, .inl (nA fk))), (a2, .inl (κ.2 0, 6, .inl (nA fs))), (q0, .inr (6, [.ref q1, .ref q2, .ref q3, .int (nI cnt9)])), (q1, .inl (κ.2 0, 120, .inl (nA fn9))), (q2, .inl (κ.2 0, 120, .inl (nA fp9))), (q3, .inl (κ.2 0, 120, .inl (nA fr9)))]) := by
  refine cmv_of RX6 rfl (by decide) (Nat.le_of_ble_eq_true rfl) ?_
  intro p e s m below meth c A C hAe hA hini
  refine g_lv (lv' := [(0, .ref e0), (1, .int (nI en)), (2, .ref a0), (3, .ref b0), (4, .ref q0)]) [0, 1, 2, 3, 4] rfl ?_
  obtain ⟨h1, h2, h3⟩ := hQ
  refine g_iconst (pc' := 1) (v := nI 0) C dX6_find_0 (by decide) rfl ?_
  refine g_istore (pc' := 3) (lv' := [(5, .int (nI 0)), (0, .ref e0), (1, .int (nI en)), (2, .ref a0), (3, .ref b0), (4, .ref q0)]) C dX6_find_1 (by decide) rfl rfl ?_
  have lp_a : ∀ (fu_a : Nat) (f : Nat) (ct : Nat) (gn : Nat → Nat) (gp : Nat → Nat) (gr : Nat → Nat), (f ≤ 6) → (stOK (L ++ spL n fk fs len fw en pr fst sec rch f) ct gn gp gr) → (6 - f) < fu_a → G p l e (rmv 4 0 0) s m ([.ref e0, .int (nI en), .ref a0, .ref b0, .ref q0] : List Value).toArray below meth c κ 6 (JM A s) [(e0, .inr (5, [.int (nI pr), .int (nI fst), .int (nI sec), .int (nI rch)])), (b0, .inr (4, [.ref b1, .int (nI len)])), (b1, .inl (κ.2 0, 6, .inl (nA fw))), (a0, .inr (3, [.ref a1, .ref a2, .int (nI n)])), (a1, .inl (κ.2 0, 6, .inl (nA fk))), (a2, .inl (κ.2 0, 6, .inl (nA fs))), (q0, .inr (6, [.ref q1, .ref q2, .ref q3, .int (nI ct)])), (q1, .inl (κ.2 0, 120, .inl (nA gn))), (q2, .inl (κ.2 0, 120, .inl (nA gp))), (q3, .inl (κ.2 0, 120, .inl (nA gr)))] 0 0 (MQ below (QMv κ [(e0, .inr (5, [.int (nI pr), .int (nI fst), .int (nI sec), .int (nI rch)])), (b0, .inr (4, [.ref b1, .int (nI len)])), (b1, .inl (κ.2 0, 6, .inl (nA fw))), (a0, .inr (3, [.ref a1, .ref a2, .int (nI n)])), (a1, .inl (κ.2 0, 6, .inl (nA fk))), (a2, .inl (κ.2 0, 6, .inl (nA fs))), (q0, .inr (6, [.ref q1, .ref q2, .ref q3, .int (nI cnt)])), (q1, .inl (κ.2 0, 120, .inl (nA fn))), (q2, .inl (κ.2 0, 120, .inl (nA fp))), (q3, .inl (κ.2 0, 120, .inl (nA fr)))] s.heap.size (fun (vw_ : va_W) => ∃ (cnt9 : Nat), ∃ (fn9 : Nat → Nat), ∃ (fp9 : Nat → Nat), ∃ (fr9 : Nat → Nat), (stOK (L ++ spL n fk fs len fw en pr fst sec rch 6) cnt9 fn9 fp9 fr9) ∧ vw_ = [(e0, .inr (5, [.int (nI pr), .int (nI fst), .int (nI sec), .int (nI rch)])), (b0, .inr (4, [.ref b1, .int (nI len)])), (b1, .inl (κ.2 0, 6, .inl (nA fw))), (a0, .inr (3, [.ref a1, .ref a2, .int (nI n)])), (a1, .inl (κ.2 0, 6, .inl (nA fk))), (a2, .inl (κ.2 0, 6, .inl (nA fs))), (q0, .inr (6, [.ref q1, .ref q2, .ref q3, .int (nI cnt9)])), (q1, .inl (κ.2 0, 120, .inl (nA fn9))), (q2, .inl (κ.2 0, 120, .inl (nA fp9))), (q3, .inl (κ.2 0, 120, .inl (nA fr9)))])) ([.ref e0, .int (nI en), .ref a0, .ref b0, .ref q0] : List Value).toArray s 0 0 A) 3 [(5, .int (nI f)), (0, .ref e0), (1, .int (nI en)), (2, .ref a0), (3, .ref b0), (4, .ref q0)] [] := by
    intro fu_a
    induction fu_a with
    | zero => intro f ct gn gp gr hf hst hmu; exact absurd hmu (Nat.not_lt_zero _)
    | succ fu_a ih_a =>
      intro f ct gn gp gr hf hst hmu_a
      refine g_iload (pc' := 5) C 0 dX6_find_3 rfl rfl ?_
      refine g_bipush (pc' := 7) (v := nI 6) C dX6_find_5 (by decide) rfl ?_
      refine g_icmp_geN (pc' := 10) (tgt := 41) C (by first | assumption | omega) (by first | assumption | omega) dX6_find_7 (by decide) rfl (fun c_7_1 => ?_) (fun c_7_1 => ?_)
      · exact g_retMv C hAe rfl (Nat.le_of_ble_eq_true rfl) (Nat.le_of_ble_eq_true rfl) (⟨ct, gn, gp, gr, by have e : f = 6 := (by omega); subst e; exact hst, rfl⟩) dX6_find_41
      · refine g_aload_n (pc' := 11) C 4 dX6_find_10 rfl rfl rfl ?_
        refine g_iload (pc' := 13) C 0 dX6_find_11 rfl rfl ?_
        refine g_aload_n (pc' := 14) C 1 dX6_find_13 rfl rfl rfl ?_
        refine g_get (pc' := 17) C fl_RX6_9_5 0 rfl rfl dX6_find_14 rfl ?_
        refine g_aload_n (pc' := 18) C 3 dX6_find_17 rfl rfl rfl ?_
        refine g_callP (pc' := 21) C lk_RX6_21 (kX5_hasFormAt l κ b0 b1 len fw a0 a1 a2 n fk fs f fst (by first | assumption | omega) (by first | assumption | omega) (by first | assumption | omega) (by first | assumption | omega)) 1 rfl rfl [1, 2, 3, 4, 5] rfl rfl (Nat.le_of_ble_eq_true rfl) ⟨Nat.le_of_ble_eq_true rfl, Nat.le_of_ble_eq_true rfl⟩ ⟨Nat.le_of_ble_eq_true rfl, Nat.le_of_ble_eq_true rfl⟩ rfl dX6_find_18 rfl (fun r_18_2 h_18_2 => ?_)
        obtain rfl : r_18_2 = b2i (decide (f < len) && fm n fk fs (fw f) fst) := h_18_2
        refine g_if_eqB (pc' := 24) (tgt := 35) C dX6_find_21 (by decide) rfl (fun c_21_3 => ?_) (fun c_21_3 => ?_)
        · refine g_iinc (pc' := 38) (v := nI (f + 1)) (lv' := [(5, .int (nI (f + 1))), (0, .ref e0), (1, .int (nI en)), (2, .ref a0), (3, .ref b0), (4, .ref q0)]) C 0 dX6_find_35 rfl (iincN1 _) (by decide) rfl rfl ?_
          refine g_goto (tgt := 3) C dX6_find_38 (by decide) ?_
          exact ih_a (f + 1) ct gn gp gr (by first | assumption | omega) (by rw [spL, if_neg (by rw [c_21_3]; decide), List.append_nil]; exact hst) (by omega)
        · refine g_aload_n (pc' := 25) C 1 dX6_find_24 rfl rfl rfl ?_
          refine g_iload (pc' := 27) C 0 dX6_find_25 rfl rfl ?_
          refine g_iload_n (pc' := 28) C 2 dX6_find_27 rfl rfl rfl ?_
          refine g_aload_n (pc' := 29) C 3 dX6_find_28 rfl rfl rfl ?_
          refine g_aload_n (pc' := 30) C 4 dX6_find_29 rfl rfl rfl ?_
          refine g_aload (pc' := 32) C 5 dX6_find_30 rfl rfl ?_
          refine g_callMv (pc' := 35) (wr := []) C hA lk_RX6_27 (kX6_findFrom l κ e0 pr fst sec rch b0 b1 len fw a0 a1 a2 n fk fs q0 q1 q2 q3 ct gn gp gr (L ++ spL n fk fs len fw en pr fst sec rch f) f en ⟨h1, h2, h3⟩ (by first | assumption | omega) (by first | assumption | omega) (by first | assumption | omega) (by first | assumption | omega) (fun b hb => by have h8 := hL.1; have h9 := sp_room (n := n) (fk := fk) (fs := fs) (fw := fw) (en := en) (pr := pr) (fst := fst) (sec := sec) (rch := rch) hS.1 hb; rw [List.length_append]; omega)) 0 rfl rfl [0, 1, 2, 3, 4, 5, 6, 7, 8, 9] [] rfl rfl ⟨rfl, rfl, by decide⟩ rfl (Nat.le_of_ble_eq_true rfl) ⟨Nat.le_of_ble_eq_true rfl, Nat.le_of_ble_eq_true rfl⟩ ⟨Nat.le_of_ble_eq_true rfl, Nat.le_of_ble_eq_true rfl⟩ rfl dX6_find_32 rfl (fun w_32_4 h_32_4 => ?_)
          obtain ⟨cnt9_4, fn9_4, fp9_4, fr9_4, hx_4, rfl⟩ : ∃ (cnt9_4 : Nat), ∃ (fn9_4 : Nat → Nat), ∃ (fp9_4 : Nat → Nat), ∃ (fr9_4 : Nat → Nat), (stOK ((L ++ spL n fk fs len fw en pr fst sec rch f) ++ spB n fk fs len fw en pr sec f (rch + 1)) cnt9_4 fn9_4 fp9_4 fr9_4) ∧ w_32_4 = [(e0, .inr (5, [.int (nI pr), .int (nI fst), .int (nI sec), .int (nI rch)])), (b0, .inr (4, [.ref b1, .int (nI len)])), (b1, .inl (κ.2 0, 6, .inl (nA fw))), (a0, .inr (3, [.ref a1, .ref a2, .int (nI n)])), (a1, .inl (κ.2 0, 6, .inl (nA fk))), (a2, .inl (κ.2 0, 6, .inl (nA fs))), (q0, .inr (6, [.ref q1, .ref q2, .ref q3, .int (nI cnt9_4)])), (q1, .inl (κ.2 0, 120, .inl (nA fn9_4))), (q2, .inl (κ.2 0, 120, .inl (nA fp9_4))), (q3, .inl (κ.2 0, 120, .inl (nA fr9_4)))] := h_32_4
          show G p l e (rmv 4 0 0) s m ([.ref e0, .int (nI en), .ref a0, .ref b0, .ref q0] : List Value).toArray below meth c κ 6 (JM A s) [(e0, .inr (5, [.int (nI pr), .int (nI fst), .int (nI sec), .int (nI rch)])), (b0, .inr (4, [.ref b1, .int (nI len)])), (b1, .inl (κ.2 0, 6, .inl (nA fw))), (a0, .inr (3, [.ref a1, .ref a2, .int (nI n)])), (a1, .inl (κ.2 0, 6, .inl (nA fk))), (a2, .inl (κ.2 0, 6, .inl (nA fs))), (q0, .inr (6, [.ref q1, .ref q2, .ref q3, .int (nI cnt9_4)])), (q1, .inl (κ.2 0, 120, .inl (nA fn9_4))), (q2, .inl (κ.2 0, 120, .inl (nA fp9_4))), (q3, .inl (κ.2 0, 120, .inl (nA fr9_4)))] 0 0 (MQ below (QMv κ [(e0, .inr (5, [.int (nI pr), .int (nI fst), .int (nI sec), .int (nI rch)])), (b0, .inr (4, [.ref b1, .int (nI len)])), (b1, .inl (κ.2 0, 6, .inl (nA fw))), (a0, .inr (3, [.ref a1, .ref a2, .int (nI n)])), (a1, .inl (κ.2 0, 6, .inl (nA fk))), (a2, .inl (κ.2 0, 6, .inl (nA fs))), (q0, .inr (6, [.ref q1, .ref q2, .ref q3, .int (nI cnt)])), (q1, .inl (κ.2 0, 120, .inl (nA fn))), (q2, .inl (κ.2 0, 120, .inl (nA fp))), (q3, .inl (κ.2 0, 120, .inl (nA fr)))] s.heap.size (fun (vw_ : va_W) => ∃ (cnt9 : Nat), ∃ (fn9 : Nat → Nat), ∃ (fp9 : Nat → Nat), ∃ (fr9 : Nat → Nat), (stOK (L ++ spL n fk fs len fw en pr fst sec rch 6) cnt9 fn9 fp9 fr9) ∧ vw_ = [(e0, .inr (5, [.int (nI pr), .int (nI fst), .int (nI sec), .int (nI rch)])), (b0, .inr (4, [.ref b1, .int (nI len)])), (b1, .inl (κ.2 0, 6, .inl (nA fw))), (a0, .inr (3, [.ref a1, .ref a2, .int (nI n)])), (a1, .inl (κ.2 0, 6, .inl (nA fk))), (a2, .inl (κ.2 0, 6, .inl (nA fs))), (q0, .inr (6, [.ref q1, .ref q2, .ref q3, .int (nI cnt9)])), (q1, .inl (κ.2 0, 120, .inl (nA fn9))), (q2, .inl (κ.2 0, 120, .inl (nA fp9))), (q3, .inl (κ.2 0, 120, .inl (nA fr9)))])) ([.ref e0, .int (nI en), .ref a0, .ref b0, .ref q0] : List Value).toArray s 0 0 A) 35 [(5, .int (nI f)), (0, .ref e0), (1, .int (nI en)), (2, .ref a0), (3, .ref b0), (4, .ref q0)] []
          refine g_iinc (pc' := 38) (v := nI (f + 1)) (lv' := [(5, .int (nI (f + 1))), (0, .ref e0), (1, .int (nI en)), (2, .ref a0), (3, .ref b0), (4, .ref q0)]) C 0 dX6_find_35 rfl (iincN1 _) (by decide) rfl rfl ?_
          refine g_goto (tgt := 3) C dX6_find_38 (by decide) ?_
          exact ih_a (f + 1) cnt9_4 fn9_4 fp9_4 fr9_4 (by first | assumption | omega) (by rw [spL, if_pos c_21_3, ← List.append_assoc]; assumption) (by omega)
  exact lp_a 7 0 cnt fn fp fr (Nat.zero_le _) (by simpa [spL] using hL) (by omega)
