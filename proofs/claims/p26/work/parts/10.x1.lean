set_option maxHeartbeats 4000000 in
set_option maxRecDepth 100000 in
theorem kJ7_fill_53178 (l : Launch) (κ : KK) (c2 : Nat) (pk : Nat → Option Nat) : CMv l yJ7_fill_53178 cJ7_fill_53178 4 none 0 0 0 κ [.ref c2, .int (-1)] [(c2, .inl (κ.2 0, 6, .inl (oA pk)))] (fun (vw_ : va_W) => ∃ (pk9 : Nat → Option Nat), (∀ j, j < 6 → pk9 j = none) ∧ vw_ = [(c2, .inl (κ.2 0, 6, .inl (oA pk9)))]) := by
  refine cmv_of RJ7 rfl (by decide) (Nat.le_of_ble_eq_true rfl) ?_
  intro p e s m below meth c A C hAe hA hini
  refine g_lv (lv' := [(0, .ref c2), (1, .int (-1))]) [0, 1] rfl ?_
  refine g_iconst (pc' := 1) (v := nI 0) C dJ7_fill_53178_0 (by decide) rfl ?_
  refine g_istore_n (pc' := 2) (lv' := [(2, .int (nI 0)), (0, .ref c2), (1, .int (-1))]) C dJ7_fill_53178_1 rfl (by decide) rfl rfl ?_
  refine g_aload_n (pc' := 3) C 1 dJ7_fill_53178_2 rfl rfl rfl ?_
  refine g_alen (pc' := 4) C 0 0 rfl rfl dJ7_fill_53178_3 rfl ?_
  refine g_istore_n (pc' := 5) (lv' := [(3, .int (nI 6)), (2, .int (nI 0)), (0, .ref c2), (1, .int (-1))]) C dJ7_fill_53178_4 rfl (by decide) rfl rfl ?_
  have lp_a : ∀ (fu_a : Nat) (i : Nat) (pl : Nat → Option Nat), (i ≤ 6) → (∀ j, j < i → pl j = none) → (6 - i) < fu_a → G p l e (rmv 0 0 0) s m ([.ref c2, .int (-1)] : List Value).toArray below meth c κ 4 (JM A s) [(c2, .inl (κ.2 0, 6, .inl (oA pl)))] 0 0 (MQ below (QMv κ [(c2, .inl (κ.2 0, 6, .inl (oA pk)))] s.heap.size (fun (vw_ : va_W) => ∃ (pk9 : Nat → Option Nat), (∀ j, j < 6 → pk9 j = none) ∧ vw_ = [(c2, .inl (κ.2 0, 6, .inl (oA pk9)))])) ([.ref c2, .int (-1)] : List Value).toArray s 0 0 A) 5 [(2, .int (nI i)), (3, .int (nI 6)), (0, .ref c2), (1, .int (-1))] [] := by
    intro fu_a
    induction fu_a with
    | zero => intro i pl hi hp hmu; exact absurd hmu (Nat.not_lt_zero _)
    | succ fu_a ih_a =>
      intro i pl hi hp hmu_a
      refine g_iload_n (pc' := 6) C 0 dJ7_fill_53178_5 rfl rfl rfl ?_
      refine g_iload_n (pc' := 7) C 1 dJ7_fill_53178_6 rfl rfl rfl ?_
      refine g_icmp_geN (pc' := 10) (tgt := 20) C (by first | assumption | omega) (by first | assumption | omega) dJ7_fill_53178_7 (by decide) rfl (fun c_7_1 => ?_) (fun c_7_1 => ?_)
      · exact g_retMv C hAe rfl (Nat.le_of_ble_eq_true rfl) (Nat.le_of_ble_eq_true rfl) (⟨pl, fun j hj => hp j (by omega), rfl⟩) dJ7_fill_53178_20
      · refine g_aload_n (pc' := 11) C 2 dJ7_fill_53178_10 rfl rfl rfl ?_
        refine g_iload_n (pc' := 12) C 0 dJ7_fill_53178_11 rfl rfl rfl ?_
        refine g_iload_n (pc' := 13) C 3 dJ7_fill_53178_12 rfl rfl rfl ?_
        refine g_iastO (pc' := 14) (x := none) (ws' := [(c2, .inl (κ.2 0, 6, .inl (oA (va_up pl i none))))]) C 0 rfl rfl i (by first | assumption | omega) (by decide) rfl dJ7_fill_53178_13 rfl ?_
        refine g_iinc (pc' := 17) (v := nI (i + 1)) (lv' := [(2, .int (nI (i + 1))), (3, .int (nI 6)), (0, .ref c2), (1, .int (-1))]) C 0 dJ7_fill_53178_14 rfl (iincN1 _) (by decide) rfl rfl ?_
        refine g_goto (tgt := 5) C dJ7_fill_53178_17 (by decide) ?_
        exact ih_a (i + 1) (va_up pl i none) (by first | assumption | omega) (fun j hj => by by_cases e : j = i <;> simp [va_up, e]; exact hp j (by omega)) (by omega)
  refine g_lv (lv' := [(2, .int (nI 0)), (3, .int (nI 6)), (0, .ref c2), (1, .int (-1))]) [1, 0, 2, 3] rfl ?_
  exact lp_a 7 0 pk (Nat.zero_le _) (fun j hj => absurd hj (Nat.not_lt_zero j)) (by omega)

set_option maxHeartbeats 4000000 in
set_option maxRecDepth 100000 in
theorem kX1_costWith (l : Launch) (κ : KK) (c0 : Nat) (c1 : Nat) (c2 : Nat) (cr : Nat → Nat) (M : Nat → Nat → Nat) (q0 : Nat) (q1 : Nat) (q2 : Nat) (q3 : Nat) (cnt : Nat) (fp : Nat → Nat) (fr : Nat → Nat) (i : Nat) (pl : Nat) (tk : Nat) (hF : FW cnt fp fr) (hi : i < cnt) (hpl : pl < 6) (htk : tk < 64) : CP l yX1_costWith cX1_costWith 6 (some .int) 2 κ [.ref c0, .int (nI i), .int (nI pl), .int (nI tk), .ref q0] [(c0, .inr (1, [.ref c1, .ref c2])), (c1, .inl (κ.2 3, 7, .inr (.inr (.inr (.inr (g7 cr)))))), ((cr 0), .inl (κ.2 0, 64, .inl (nA (M 0)))), ((cr 1), .inl (κ.2 0, 64, .inl (nA (M 1)))), ((cr 2), .inl (κ.2 0, 64, .inl (nA (M 2)))), ((cr 3), .inl (κ.2 0, 64, .inl (nA (M 3)))), ((cr 4), .inl (κ.2 0, 64, .inl (nA (M 4)))), ((cr 5), .inl (κ.2 0, 64, .inl (nA (M 5)))), ((cr 6), .inl (κ.2 0, 64, .inl (nA (M 6)))), (q0, .inr (6, [.ref q1, .ref q2, .ref q3, .int (nI cnt)])), (q2, .inl (κ.2 0, 120, .inl (nA fp))), (q3, .inl (κ.2 0, 120, .inl (nA fr)))] (fun vr_ => vr_ = nI (fr i + M (pl + 1) (tk ||| fp i))) := by
  refine cp_of RX1 rfl (by decide) (Nat.le_of_ble_eq_true rfl) ?_
  intro p e s m below meth c C
  refine g_lv (lv' := [(0, .ref c0), (1, .int (nI i)), (2, .int (nI pl)), (3, .int (nI tk)), (4, .ref q0)]) [0, 1, 2, 3, 4] rfl ?_
  have hc : cnt ≤ 120 := hF.1
  obtain ⟨h0, h6, h20⟩ := hF.2 i hi
  have ho := or64 htk h6
  refine g_iload_n (pc' := 1) C 3 dX1_costWith_0 rfl rfl rfl ?_
  refine g_aload (pc' := 3) C 4 dX1_costWith_1 rfl rfl ?_
  refine g_iload_n (pc' := 4) C 1 dX1_costWith_3 rfl rfl rfl ?_
  refine g_callP (pc' := 7) C lk_RX1_44 (kX7_placesOf l κ q0 q1 q2 q3 cnt fp i (by first | assumption | omega) (by first | assumption | omega)) 9 rfl rfl [9, 10] rfl rfl (Nat.le_of_ble_eq_true rfl) ⟨Nat.le_of_ble_eq_true rfl, Nat.le_of_ble_eq_true rfl⟩ ⟨Nat.le_of_ble_eq_true rfl, Nat.le_of_ble_eq_true rfl⟩ rfl dX1_costWith_4 rfl (fun r_4_1 h_4_1 => ?_)
  obtain rfl : r_4_1 = nI (fp i) := h_4_1
  refine g_ior (pc' := 8) (v := nI (tk ||| (fp i))) C dX1_costWith_7 (nI_or _ _) rfl ?_
  refine g_bipush (pc' := 10) (v := nI 63) C dX1_costWith_8 (by decide) rfl ?_
  refine g_iand (pc' := 11) (v := nI (tk ||| fp i)) C dX1_costWith_10 (and63 ho) rfl ?_
  refine g_istore (pc' := 13) (lv' := [(5, .int (nI (tk ||| fp i))), (0, .ref c0), (1, .int (nI i)), (2, .int (nI pl)), (3, .int (nI tk)), (4, .ref q0)]) C dX1_costWith_11 (by decide) rfl rfl ?_
  refine g_aload (pc' := 15) C 5 dX1_costWith_13 rfl rfl ?_
  refine g_iload_n (pc' := 16) C 2 dX1_costWith_15 rfl rfl rfl ?_
  refine g_callP (pc' := 19) C lk_RX1_48 (kX7_priceOf l κ q0 q1 q2 q3 cnt fr i (by first | assumption | omega) (by first | assumption | omega)) 9 rfl rfl [9, 11] rfl rfl (Nat.le_of_ble_eq_true rfl) ⟨Nat.le_of_ble_eq_true rfl, Nat.le_of_ble_eq_true rfl⟩ ⟨Nat.le_of_ble_eq_true rfl, Nat.le_of_ble_eq_true rfl⟩ rfl dX1_costWith_16 rfl (fun r_16_2 h_16_2 => ?_)
  obtain rfl : r_16_2 = nI (fr i) := h_16_2
  refine g_aload_n (pc' := 20) C 1 dX1_costWith_19 rfl rfl rfl ?_
  refine g_get (pc' := 23) C fl_RX1_13_1 0 rfl rfl dX1_costWith_20 rfl ?_
  refine g_iload_n (pc' := 24) C 3 dX1_costWith_23 rfl rfl rfl ?_
  refine g_iconst (pc' := 25) (v := nI 1) C dX1_costWith_24 (by decide) rfl ?_
  refine g_iadd (pc' := 26) (v := nI (pl + 1)) C dX1_costWith_25 (nI_add _ _) rfl ?_
  refine g_aald2 (pc' := 27) (b := (cr (pl + 1))) C 1 rfl (pl + 1) (by first | assumption | omega) (by decide) (g7_at (by omega)) dX1_costWith_26 rfl ?_
  refine g_iload (pc' := 29) C 0 dX1_costWith_27 rfl rfl ?_
  refine g_ialdN (pc' := 30) C (2 + (pl + 1)) (f := (M (pl + 1))) (row7 (κ := κ) (cr := cr) (M := M) (X := [(c0, .inr (1, [.ref c1, .ref c2])), (c1, .inl (κ.2 3, 7, .inr (.inr (.inr (.inr (g7 cr))))))]) (Y := [(q0, .inr (6, [.ref q1, .ref q2, .ref q3, .int (nI cnt)])), (q2, .inl (κ.2 0, 120, .inl (nA fp))), (q3, .inl (κ.2 0, 120, .inl (nA fr)))]) (b := 2) rfl rfl (by omega)) (tk ||| fp i) (by first | assumption | omega) (by decide) dX1_costWith_29 rfl ?_
  refine g_iadd (pc' := 31) (v := nI ((fr i) + ((M (pl + 1)) (tk ||| fp i)))) C dX1_costWith_30 (nI_add _ _) rfl ?_
  exact g_retP C rfl rfl (show nI ((fr i) + ((M (pl + 1)) (tk ||| fp i))) = nI (fr i + M (pl + 1) (tk ||| fp i)) by rfl) dX1_costWith_31

set_option maxHeartbeats 4000000 in
set_option maxRecDepth 100000 in
theorem kX1_leastFrom (l : Launch) (κ : KK) (c0 : Nat) (c1 : Nat) (c2 : Nat) (cr : Nat → Nat) (M : Nat → Nat → Nat) (q0 : Nat) (q1 : Nat) (q2 : Nat) (q3 : Nat) (cnt : Nat) (fp : Nat → Nat) (fr : Nat → Nat) (pl : Nat) (tk : Nat) (idl : Nat) (hF : FW cnt fp fr) (hM : MW M) (hpl : pl < 6) (htk : tk < 64) (hidl : idl ≤ 50) : CP l yX1_leastFrom cX1_leastFrom 7 (some .int) 3 κ [.ref c0, .int (nI pl), .int (nI tk), .ref q0, .int (nI idl)] [(c0, .inr (1, [.ref c1, .ref c2])), (c1, .inl (κ.2 3, 7, .inr (.inr (.inr (.inr (g7 cr)))))), ((cr 0), .inl (κ.2 0, 64, .inl (nA (M 0)))), ((cr 1), .inl (κ.2 0, 64, .inl (nA (M 1)))), ((cr 2), .inl (κ.2 0, 64, .inl (nA (M 2)))), ((cr 3), .inl (κ.2 0, 64, .inl (nA (M 3)))), ((cr 4), .inl (κ.2 0, 64, .inl (nA (M 4)))), ((cr 5), .inl (κ.2 0, 64, .inl (nA (M 5)))), ((cr 6), .inl (κ.2 0, 64, .inl (nA (M 6)))), (q0, .inr (6, [.ref q1, .ref q2, .ref q3, .int (nI cnt)])), (q2, .inl (κ.2 0, 120, .inl (nA fp))), (q3, .inl (κ.2 0, 120, .inl (nA fr)))] (fun vr_ => vr_ = nI (lfR (M (pl + 1)) fp fr cnt pl tk idl)) := by
  refine cp_of RX1 rfl (by decide) (Nat.le_of_ble_eq_true rfl) ?_
  intro p e s m below meth c C
  refine g_lv (lv' := [(0, .ref c0), (1, .int (nI pl)), (2, .int (nI tk)), (3, .ref q0), (4, .int (nI idl))]) [0, 1, 2, 3, 4] rfl ?_
  have hc : cnt ≤ 120 := hF.1
  refine g_iload_n (pc' := 1) C 2 dX1_leastFrom_0 rfl rfl rfl ?_
  refine g_iload_n (pc' := 2) C 1 dX1_leastFrom_1 rfl rfl rfl ?_
  refine g_ishr (pc' := 3) (v := nI (tk / 2 ^ pl)) C dX1_leastFrom_2 (nI_shr _ _ (by omega) (by first | assumption | omega)) rfl ?_
  refine g_iconst (pc' := 4) (v := nI 1) C dX1_leastFrom_3 (by decide) rfl ?_
  refine g_iand (pc' := 5) (v := nI ((tk / 2 ^ pl) &&& 1)) C dX1_leastFrom_4 (nI_and _ _) rfl ?_
  refine g_iconst (pc' := 6) (v := nI 1) C dX1_leastFrom_5 (by decide) rfl ?_
  refine g_icmp_neN (pc' := 9) (tgt := 20) C (by have h : tk / 2 ^ pl &&& 1 ≤ 1 := Nat.and_le_right; omega) (by first | assumption | omega) dX1_leastFrom_6 (by decide) rfl (fun c_6_1 => ?_) (fun c_6_1 => ?_)
  · refine g_iload (pc' := 22) C 4 dX1_leastFrom_20 rfl rfl ?_
    refine g_aload_n (pc' := 23) C 0 dX1_leastFrom_22 rfl rfl rfl ?_
    refine g_get (pc' := 26) C fl_RX1_13_1 0 rfl rfl dX1_leastFrom_23 rfl ?_
    refine g_iload_n (pc' := 27) C 1 dX1_leastFrom_26 rfl rfl rfl ?_
    refine g_iconst (pc' := 28) (v := nI 1) C dX1_leastFrom_27 (by decide) rfl ?_
    refine g_iadd (pc' := 29) (v := nI (pl + 1)) C dX1_leastFrom_28 (nI_add _ _) rfl ?_
    refine g_aald2 (pc' := 30) (b := (cr (pl + 1))) C 1 rfl (pl + 1) (by first | assumption | omega) (by decide) (g7_at (by omega)) dX1_leastFrom_29 rfl ?_
    refine g_iload_n (pc' := 31) C 2 dX1_leastFrom_30 rfl rfl rfl ?_
    refine g_ialdN (pc' := 32) C (2 + (pl + 1)) (f := (M (pl + 1))) (row7 (κ := κ) (cr := cr) (M := M) (X := [(c0, .inr (1, [.ref c1, .ref c2])), (c1, .inl (κ.2 3, 7, .inr (.inr (.inr (.inr (g7 cr))))))]) (Y := [(q0, .inr (6, [.ref q1, .ref q2, .ref q3, .int (nI cnt)])), (q2, .inl (κ.2 0, 120, .inl (nA fp))), (q3, .inl (κ.2 0, 120, .inl (nA fr)))]) (b := 2) rfl rfl (by omega)) tk (by first | assumption | omega) (by decide) dX1_leastFrom_31 rfl ?_
    refine g_iadd (pc' := 33) (v := nI (idl + ((M (pl + 1)) tk))) C dX1_leastFrom_32 (nI_add _ _) rfl ?_
    refine g_istore (pc' := 35) (lv' := [(5, .int (nI (idl + ((M (pl + 1)) tk)))), (0, .ref c0), (1, .int (nI pl)), (2, .int (nI tk)), (3, .ref q0), (4, .int (nI idl))]) C dX1_leastFrom_33 (by decide) rfl rfl ?_
    refine g_iconst (pc' := 36) (v := nI 0) C dX1_leastFrom_35 (by decide) rfl ?_
    refine g_istore (pc' := 38) (lv' := [(6, .int (nI 0)), (5, .int (nI (idl + ((M (pl + 1)) tk)))), (0, .ref c0), (1, .int (nI pl)), (2, .int (nI tk)), (3, .ref q0), (4, .int (nI idl))]) C dX1_leastFrom_36 (by decide) rfl rfl ?_
    have lp_a : ∀ (fu_a : Nat) (i : Nat) (be : Nat), (i ≤ cnt) → (be = lfN (M (pl + 1)) fp fr pl tk idl i) → (cnt - i) < fu_a → G p l e (rmv 3 0 0) s m ([.ref c0, .int (nI pl), .int (nI tk), .ref q0, .int (nI idl)] : List Value).toArray below meth c κ 7 (JP s) [(c0, .inr (1, [.ref c1, .ref c2])), (c1, .inl (κ.2 3, 7, .inr (.inr (.inr (.inr (g7 cr)))))), ((cr 0), .inl (κ.2 0, 64, .inl (nA (M 0)))), ((cr 1), .inl (κ.2 0, 64, .inl (nA (M 1)))), ((cr 2), .inl (κ.2 0, 64, .inl (nA (M 2)))), ((cr 3), .inl (κ.2 0, 64, .inl (nA (M 3)))), ((cr 4), .inl (κ.2 0, 64, .inl (nA (M 4)))), ((cr 5), .inl (κ.2 0, 64, .inl (nA (M 5)))), ((cr 6), .inl (κ.2 0, 64, .inl (nA (M 6)))), (q0, .inr (6, [.ref q1, .ref q2, .ref q3, .int (nI cnt)])), (q2, .inl (κ.2 0, 120, .inl (nA fp))), (q3, .inl (κ.2 0, 120, .inl (nA fr)))] 0 0 (MQ below (vp_Si (fun vr_ => vr_ = nI (lfR (M (pl + 1)) fp fr cnt pl tk idl))) ([.ref c0, .int (nI pl), .int (nI tk), .ref q0, .int (nI idl)] : List Value).toArray s 0 0 (fun _ => False)) 38 [(6, .int (nI i)), (5, .int (nI be)), (0, .ref c0), (1, .int (nI pl)), (2, .int (nI tk)), (3, .ref q0), (4, .int (nI idl))] [] := by
      intro fu_a
      induction fu_a with
      | zero => intro i be hi hbe hmu; exact absurd hmu (Nat.not_lt_zero _)
      | succ fu_a ih_a =>
        intro i be hi hbe hmu_a
        refine g_iload (pc' := 40) C 0 dX1_leastFrom_38 rfl rfl ?_
        refine g_aload_n (pc' := 41) C 5 dX1_leastFrom_40 rfl rfl rfl ?_
        refine g_getN (pc' := 44) C fl_RX1_24_6 9 rfl rfl dX1_leastFrom_41 rfl ?_
        refine g_icmp_geN (pc' := 47) (tgt := 80) C (by first | assumption | omega) (by first | assumption | omega) dX1_leastFrom_44 (by decide) rfl (fun c_44_2 => ?_) (fun c_44_2 => ?_)
        · refine g_iload (pc' := 82) C 1 dX1_leastFrom_80 rfl rfl ?_
          exact g_retP C rfl rfl (show nI be = nI (lfR (M (pl + 1)) fp fr cnt pl tk idl) by have e : i = cnt := (by omega); subst e; rw [lfR, if_neg (tb_n c_6_1), hbe]) dX1_leastFrom_82
        · refine g_aload_n (pc' := 48) C 5 dX1_leastFrom_47 rfl rfl rfl ?_
          refine g_iload (pc' := 50) C 0 dX1_leastFrom_48 rfl rfl ?_
          refine g_iload_n (pc' := 51) C 3 dX1_leastFrom_50 rfl rfl rfl ?_
          refine g_iload_n (pc' := 52) C 4 dX1_leastFrom_51 rfl rfl rfl ?_
          refine g_callP (pc' := 55) C lk_RX1_30 (kX7_fitsFrom l κ q0 q1 q2 q3 cnt fp i pl tk (by first | assumption | omega) (by first | assumption | omega) (hF.2 i (by omega)).1 (hF.2 i (by omega)).2.1 (by first | assumption | omega)) 9 rfl rfl [9, 10] rfl rfl (Nat.le_of_ble_eq_true rfl) ⟨Nat.le_of_ble_eq_true rfl, Nat.le_of_ble_eq_true rfl⟩ ⟨Nat.le_of_ble_eq_true rfl, Nat.le_of_ble_eq_true rfl⟩ rfl dX1_leastFrom_52 rfl (fun r_52_3 h_52_3 => ?_)
          obtain rfl : r_52_3 = b2i (fits (fp i) pl tk) := h_52_3
          refine g_if_eqB (pc' := 58) (tgt := 74) C dX1_leastFrom_55 (by decide) rfl (fun c_55_4 => ?_) (fun c_55_4 => ?_)
          · refine g_iinc (pc' := 77) (v := nI (i + 1)) (lv' := [(6, .int (nI (i + 1))), (5, .int (nI be)), (0, .ref c0), (1, .int (nI pl)), (2, .int (nI tk)), (3, .ref q0), (4, .int (nI idl))]) C 0 dX1_leastFrom_74 rfl (iincN1 _) (by decide) rfl rfl ?_
            refine g_goto (tgt := 38) C dX1_leastFrom_77 (by decide) ?_
            exact ih_a (i + 1) be (by first | assumption | omega) (by simp [lfN, *]) (by omega)
          · refine g_iload (pc' := 60) C 1 dX1_leastFrom_58 rfl rfl ?_
            refine g_aload_n (pc' := 61) C 2 dX1_leastFrom_60 rfl rfl rfl ?_
            refine g_iload (pc' := 63) C 0 dX1_leastFrom_61 rfl rfl ?_
            refine g_iload_n (pc' := 64) C 3 dX1_leastFrom_63 rfl rfl rfl ?_
            refine g_iload_n (pc' := 65) C 4 dX1_leastFrom_64 rfl rfl rfl ?_
            refine g_aload_n (pc' := 66) C 5 dX1_leastFrom_65 rfl rfl rfl ?_
            refine g_callP (pc' := 69) C lk_RX1_34 (kX1_costWith l κ c0 c1 c2 cr M q0 q1 q2 q3 cnt fp fr i pl tk (by first | assumption | omega) (by first | assumption | omega) (by first | assumption | omega) (by first | assumption | omega)) 0 rfl rfl [0, 1, 2, 3, 4, 5, 6, 7, 8, 9, 10, 11] rfl rfl (Nat.le_of_ble_eq_true rfl) ⟨Nat.le_of_ble_eq_true rfl, Nat.le_of_ble_eq_true rfl⟩ ⟨Nat.le_of_ble_eq_true rfl, Nat.le_of_ble_eq_true rfl⟩ rfl dX1_leastFrom_66 rfl (fun r_66_5 h_66_5 => ?_)
            obtain rfl : r_66_5 = nI (fr i + M (pl + 1) (tk ||| fp i)) := h_66_5
            refine g_min (pc' := 72) (v := nI (min be (fr i + M (pl + 1) (tk ||| fp i)))) C mn_RX1_38 wd_mn2 wd_mn3 wd_mn4 (Nat.le_of_ble_eq_true rfl) (Nat.le_of_ble_eq_true rfl) ⟨Nat.le_of_ble_eq_true rfl, Nat.le_of_ble_eq_true rfl⟩ (min_N (by have h := lfN_le (m := M (pl + 1)) (fp := fp) (fr := fr) (pl := pl) (tk := tk) (idl := idl) i; have h2 := hM (pl + 1) tk; omega) (by have h := (hF.2 i (by omega)).2.2; have h2 := hM (pl + 1) (tk ||| fp i); omega)) dX1_leastFrom_69 rfl ?_
            refine g_istore (pc' := 74) (lv' := [(5, .int (nI (min be (fr i + M (pl + 1) (tk ||| fp i))))), (6, .int (nI i)), (0, .ref c0), (1, .int (nI pl)), (2, .int (nI tk)), (3, .ref q0), (4, .int (nI idl))]) C dX1_leastFrom_72 (by decide) rfl rfl ?_
            refine g_iinc (pc' := 77) (v := nI (i + 1)) (lv' := [(6, .int (nI (i + 1))), (5, .int (nI (min be (fr i + M (pl + 1) (tk ||| fp i))))), (0, .ref c0), (1, .int (nI pl)), (2, .int (nI tk)), (3, .ref q0), (4, .int (nI idl))]) C 1 dX1_leastFrom_74 rfl (iincN1 _) (by decide) rfl rfl ?_
            refine g_goto (tgt := 38) C dX1_leastFrom_77 (by decide) ?_
            exact ih_a (i + 1) (min be (fr i + M (pl + 1) (tk ||| fp i))) (by first | assumption | omega) (by simp [lfN, *]) (by omega)
    exact lp_a (cnt + 1) 0 (idl + ((M (pl + 1)) tk)) (Nat.zero_le _) rfl (by omega)
  · refine g_aload_n (pc' := 10) C 0 dX1_leastFrom_9 rfl rfl rfl ?_
    refine g_get (pc' := 13) C fl_RX1_13_1 0 rfl rfl dX1_leastFrom_10 rfl ?_
    refine g_iload_n (pc' := 14) C 1 dX1_leastFrom_13 rfl rfl rfl ?_
    refine g_iconst (pc' := 15) (v := nI 1) C dX1_leastFrom_14 (by decide) rfl ?_
    refine g_iadd (pc' := 16) (v := nI (pl + 1)) C dX1_leastFrom_15 (nI_add _ _) rfl ?_
    refine g_aald2 (pc' := 17) (b := (cr (pl + 1))) C 1 rfl (pl + 1) (by first | assumption | omega) (by decide) (g7_at (by omega)) dX1_leastFrom_16 rfl ?_
    refine g_iload_n (pc' := 18) C 2 dX1_leastFrom_17 rfl rfl rfl ?_
    refine g_ialdN (pc' := 19) C (2 + (pl + 1)) (f := (M (pl + 1))) (row7 (κ := κ) (cr := cr) (M := M) (X := [(c0, .inr (1, [.ref c1, .ref c2])), (c1, .inl (κ.2 3, 7, .inr (.inr (.inr (.inr (g7 cr))))))]) (Y := [(q0, .inr (6, [.ref q1, .ref q2, .ref q3, .int (nI cnt)])), (q2, .inl (κ.2 0, 120, .inl (nA fp))), (q3, .inl (κ.2 0, 120, .inl (nA fr)))]) (b := 2) rfl rfl (by omega)) tk (by first | assumption | omega) (by decide) dX1_leastFrom_18 rfl ?_
    exact g_retP C rfl rfl (show nI ((M (pl + 1)) tk) = nI (lfR (M (pl + 1)) fp fr cnt pl tk idl) by rw [lfR, if_pos (tb_t c_6_1)]) dX1_leastFrom_19

set_option maxHeartbeats 4000000 in
set_option maxRecDepth 100000 in
theorem kX1_leastCost (l : Launch) (κ : KK) (c0 : Nat) (c1 : Nat) (c2 : Nat) (cr : Nat → Nat) (M : Nat → Nat → Nat) : CP l yX1_leastCost cX1_leastCost 1 (some .int) 0 κ [.ref c0] [(c0, .inr (1, [.ref c1, .ref c2])), (c1, .inl (κ.2 3, 7, .inr (.inr (.inr (.inr (g7 cr)))))), ((cr 0), .inl (κ.2 0, 64, .inl (nA (M 0)))), ((cr 1), .inl (κ.2 0, 64, .inl (nA (M 1)))), ((cr 2), .inl (κ.2 0, 64, .inl (nA (M 2)))), ((cr 3), .inl (κ.2 0, 64, .inl (nA (M 3)))), ((cr 4), .inl (κ.2 0, 64, .inl (nA (M 4)))), ((cr 5), .inl (κ.2 0, 64, .inl (nA (M 5)))), ((cr 6), .inl (κ.2 0, 64, .inl (nA (M 6))))] (fun vr_ => vr_ = nI (M 0 0)) := by
  refine cp_of RX1 rfl (by decide) (Nat.le_of_ble_eq_true rfl) ?_
  intro p e s m below meth c C
  refine g_lv (lv' := [(0, .ref c0)]) [0] rfl ?_
  refine g_aload_n (pc' := 1) C 0 dX1_leastCost_0 rfl rfl rfl ?_
  refine g_get (pc' := 4) C fl_RX1_13_1 0 rfl rfl dX1_leastCost_1 rfl ?_
  refine g_iconst (pc' := 5) (v := nI 0) C dX1_leastCost_4 (by decide) rfl ?_
  refine g_aald2 (pc' := 6) (b := (cr 0)) C 1 rfl 0 (by first | assumption | omega) (by decide) (g7_at (by decide)) dX1_leastCost_5 rfl ?_
  refine g_iconst (pc' := 7) (v := nI 0) C dX1_leastCost_6 (by decide) rfl ?_
  refine g_ialdN (pc' := 8) C 2 (f := (M 0)) rfl 0 (by first | assumption | omega) (by decide) dX1_leastCost_7 rfl ?_
  exact g_retP C rfl rfl (show nI ((M 0) 0) = nI (M 0 0) by rfl) dX1_leastCost_8

set_option maxHeartbeats 4000000 in
set_option maxRecDepth 100000 in
theorem kX1_bestFrom (l : Launch) (κ : KK) (c0 : Nat) (c1 : Nat) (c2 : Nat) (cr : Nat → Nat) (M : Nat → Nat → Nat) (q0 : Nat) (q1 : Nat) (q2 : Nat) (q3 : Nat) (cnt : Nat) (fp : Nat → Nat) (fr : Nat → Nat) (pl : Nat) (tk : Nat) (hF : FW cnt fp fr) (hM : MW M) (hpl : pl < 6) (htk : tk < 64) : CP l yX1_bestFrom cX1_bestFrom 5 (some .int) 3 κ [.ref c0, .int (nI pl), .int (nI tk), .ref q0] [(c0, .inr (1, [.ref c1, .ref c2])), (c1, .inl (κ.2 3, 7, .inr (.inr (.inr (.inr (g7 cr)))))), ((cr 0), .inl (κ.2 0, 64, .inl (nA (M 0)))), ((cr 1), .inl (κ.2 0, 64, .inl (nA (M 1)))), ((cr 2), .inl (κ.2 0, 64, .inl (nA (M 2)))), ((cr 3), .inl (κ.2 0, 64, .inl (nA (M 3)))), ((cr 4), .inl (κ.2 0, 64, .inl (nA (M 4)))), ((cr 5), .inl (κ.2 0, 64, .inl (nA (M 5)))), ((cr 6), .inl (κ.2 0, 64, .inl (nA (M 6)))), (q0, .inr (6, [.ref q1, .ref q2, .ref q3, .int (nI cnt)])), (q2, .inl (κ.2 0, 120, .inl (nA fp))), (q3, .inl (κ.2 0, 120, .inl (nA fr)))] (fun vr_ => vr_ = oI (bfAt M fp fr cnt pl tk)) := by
  refine cp_of RX1 rfl (by decide) (Nat.le_of_ble_eq_true rfl) ?_
  intro p e s m below meth c C
  refine g_lv (lv' := [(0, .ref c0), (1, .int (nI pl)), (2, .int (nI tk)), (3, .ref q0)]) [0, 1, 2, 3] rfl ?_
  have hc : cnt ≤ 120 := hF.1
  refine g_iconst (pc' := 1) (v := nI 0) C dX1_bestFrom_0 (by decide) rfl ?_
  refine g_istore (pc' := 3) (lv' := [(4, .int (nI 0)), (0, .ref c0), (1, .int (nI pl)), (2, .int (nI tk)), (3, .ref q0)]) C dX1_bestFrom_1 (by decide) rfl rfl ?_
  have lp_a : ∀ (fu_a : Nat) (i : Nat), (i ≤ cnt) → (∀ j, j < i → bP (M (pl + 1)) fp fr pl tk (M pl tk) j = false) → (cnt - i) < fu_a → G p l e (rmv 3 0 0) s m ([.ref c0, .int (nI pl), .int (nI tk), .ref q0] : List Value).toArray below meth c κ 5 (JP s) [(c0, .inr (1, [.ref c1, .ref c2])), (c1, .inl (κ.2 3, 7, .inr (.inr (.inr (.inr (g7 cr)))))), ((cr 0), .inl (κ.2 0, 64, .inl (nA (M 0)))), ((cr 1), .inl (κ.2 0, 64, .inl (nA (M 1)))), ((cr 2), .inl (κ.2 0, 64, .inl (nA (M 2)))), ((cr 3), .inl (κ.2 0, 64, .inl (nA (M 3)))), ((cr 4), .inl (κ.2 0, 64, .inl (nA (M 4)))), ((cr 5), .inl (κ.2 0, 64, .inl (nA (M 5)))), ((cr 6), .inl (κ.2 0, 64, .inl (nA (M 6)))), (q0, .inr (6, [.ref q1, .ref q2, .ref q3, .int (nI cnt)])), (q2, .inl (κ.2 0, 120, .inl (nA fp))), (q3, .inl (κ.2 0, 120, .inl (nA fr)))] 0 0 (MQ below (vp_Si (fun vr_ => vr_ = oI (bfAt M fp fr cnt pl tk))) ([.ref c0, .int (nI pl), .int (nI tk), .ref q0] : List Value).toArray s 0 0 (fun _ => False)) 3 [(4, .int (nI i)), (0, .ref c0), (1, .int (nI pl)), (2, .int (nI tk)), (3, .ref q0)] [] := by
    intro fu_a
    induction fu_a with
    | zero => intro i hi hno hmu; exact absurd hmu (Nat.not_lt_zero _)
    | succ fu_a ih_a =>
      intro i hi hno hmu_a
      refine g_iload (pc' := 5) C 0 dX1_bestFrom_3 rfl rfl ?_
      refine g_aload_n (pc' := 6) C 4 dX1_bestFrom_5 rfl rfl rfl ?_
      refine g_getN (pc' := 9) C fl_RX1_24_6 9 rfl rfl dX1_bestFrom_6 rfl ?_
      refine g_icmp_geN (pc' := 12) (tgt := 52) C (by first | assumption | omega) (by first | assumption | omega) dX1_bestFrom_9 (by decide) rfl (fun c_9_1 => ?_) (fun c_9_1 => ?_)
      · refine g_iconst (pc' := 53) (v := (-1)) C dX1_bestFrom_52 (by decide) rfl ?_
        exact g_retP C rfl rfl (show (-1) = oI (bfAt M fp fr cnt pl tk) by have e : i = cnt := (by omega); subst e; rw [bfAt, firstB_none hno]; rfl) dX1_bestFrom_53
      · refine g_aload_n (pc' := 13) C 4 dX1_bestFrom_12 rfl rfl rfl ?_
        refine g_iload (pc' := 15) C 0 dX1_bestFrom_13 rfl rfl ?_
        refine g_iload_n (pc' := 16) C 2 dX1_bestFrom_15 rfl rfl rfl ?_
        refine g_iload_n (pc' := 17) C 3 dX1_bestFrom_16 rfl rfl rfl ?_
        refine g_callP (pc' := 20) C lk_RX1_30 (kX7_fitsFrom l κ q0 q1 q2 q3 cnt fp i pl tk (by first | assumption | omega) (by first | assumption | omega) (hF.2 i (by omega)).1 (hF.2 i (by omega)).2.1 (by first | assumption | omega)) 9 rfl rfl [9, 10] rfl rfl (Nat.le_of_ble_eq_true rfl) ⟨Nat.le_of_ble_eq_true rfl, Nat.le_of_ble_eq_true rfl⟩ ⟨Nat.le_of_ble_eq_true rfl, Nat.le_of_ble_eq_true rfl⟩ rfl dX1_bestFrom_17 rfl (fun r_17_2 h_17_2 => ?_)
        obtain rfl : r_17_2 = b2i (fits (fp i) pl tk) := h_17_2
        refine g_if_eqB (pc' := 23) (tgt := 46) C dX1_bestFrom_20 (by decide) rfl (fun c_20_3 => ?_) (fun c_20_3 => ?_)
        · refine g_iinc (pc' := 49) (v := nI (i + 1)) (lv' := [(4, .int (nI (i + 1))), (0, .ref c0), (1, .int (nI pl)), (2, .int (nI tk)), (3, .ref q0)]) C 0 dX1_bestFrom_46 rfl (iincN1 _) (by decide) rfl rfl ?_
          refine g_goto (tgt := 3) C dX1_bestFrom_49 (by decide) ?_
          exact ih_a (i + 1) (by first | assumption | omega) (lt_s hno (by simp [bP, c_20_3])) (by omega)
        · refine g_aload_n (pc' := 24) C 1 dX1_bestFrom_23 rfl rfl rfl ?_
          refine g_iload (pc' := 26) C 0 dX1_bestFrom_24 rfl rfl ?_
          refine g_iload_n (pc' := 27) C 2 dX1_bestFrom_26 rfl rfl rfl ?_
          refine g_iload_n (pc' := 28) C 3 dX1_bestFrom_27 rfl rfl rfl ?_
          refine g_aload_n (pc' := 29) C 4 dX1_bestFrom_28 rfl rfl rfl ?_
          refine g_callP (pc' := 32) C lk_RX1_34 (kX1_costWith l κ c0 c1 c2 cr M q0 q1 q2 q3 cnt fp fr i pl tk (by first | assumption | omega) (by first | assumption | omega) (by first | assumption | omega) (by first | assumption | omega)) 0 rfl rfl [0, 1, 2, 3, 4, 5, 6, 7, 8, 9, 10, 11] rfl rfl (Nat.le_of_ble_eq_true rfl) ⟨Nat.le_of_ble_eq_true rfl, Nat.le_of_ble_eq_true rfl⟩ ⟨Nat.le_of_ble_eq_true rfl, Nat.le_of_ble_eq_true rfl⟩ rfl dX1_bestFrom_29 rfl (fun r_29_4 h_29_4 => ?_)
          obtain rfl : r_29_4 = nI (fr i + M (pl + 1) (tk ||| fp i)) := h_29_4
          refine g_aload_n (pc' := 33) C 1 dX1_bestFrom_32 rfl rfl rfl ?_
          refine g_get (pc' := 36) C fl_RX1_13_1 0 rfl rfl dX1_bestFrom_33 rfl ?_
          refine g_iload_n (pc' := 37) C 2 dX1_bestFrom_36 rfl rfl rfl ?_
          refine g_aald2 (pc' := 38) (b := (cr pl)) C 1 rfl pl (by first | assumption | omega) (by decide) (g7_at (by omega)) dX1_bestFrom_37 rfl ?_
          refine g_iload_n (pc' := 39) C 3 dX1_bestFrom_38 rfl rfl rfl ?_
          refine g_ialdN (pc' := 40) C (2 + pl) (f := (M pl)) (row7 (κ := κ) (cr := cr) (M := M) (X := [(c0, .inr (1, [.ref c1, .ref c2])), (c1, .inl (κ.2 3, 7, .inr (.inr (.inr (.inr (g7 cr))))))]) (Y := [(q0, .inr (6, [.ref q1, .ref q2, .ref q3, .int (nI cnt)])), (q2, .inl (κ.2 0, 120, .inl (nA fp))), (q3, .inl (κ.2 0, 120, .inl (nA fr)))]) (b := 2) rfl rfl (by omega)) tk (by first | assumption | omega) (by decide) dX1_bestFrom_39 rfl ?_
          refine g_icmp_neN (pc' := 43) (tgt := 46) C (by have h := (hF.2 i (by omega)).2.2; have h2 := hM (pl + 1) (tk ||| fp i); omega) (by have h2 := hM pl tk; omega) dX1_bestFrom_40 (by decide) rfl (fun c_40_5 => ?_) (fun c_40_5 => ?_)
          · refine g_iinc (pc' := 49) (v := nI (i + 1)) (lv' := [(4, .int (nI (i + 1))), (0, .ref c0), (1, .int (nI pl)), (2, .int (nI tk)), (3, .ref q0)]) C 0 dX1_bestFrom_46 rfl (iincN1 _) (by decide) rfl rfl ?_
            refine g_goto (tgt := 3) C dX1_bestFrom_49 (by decide) ?_
            exact ih_a (i + 1) (by first | assumption | omega) (lt_s hno (by simp [bP, c_40_5])) (by omega)
          · refine g_iload (pc' := 45) C 0 dX1_bestFrom_43 rfl rfl ?_
            exact g_retP C rfl rfl (show nI i = oI (bfAt M fp fr cnt pl tk) by rw [bfAt, firstB_is hno (by simp [bP, c_20_3, c_40_5]) (by omega)]; rfl) dX1_bestFrom_45
  exact lp_a (cnt + 1) 0 (Nat.zero_le _) lt_0 (by omega)

set_option maxHeartbeats 4000000 in
set_option maxRecDepth 100000 in
theorem kX1_mark (l : Launch) (κ : KK) (c0 : Nat) (c1 : Nat) (c2 : Nat) (pk : Nat → Option Nat) (s9 : Nat) (ix : Option Nat) (hs : s9 < 64) : CMv l yX1_mark cX1_mark 4 none 0 0 0 κ [.ref c0, .int (nI s9), .int (oI ix)] [(c0, .inr (1, [.ref c1, .ref c2])), (c2, .inl (κ.2 0, 6, .inl (oA pk)))] (fun (vw_ : va_W) => vw_ = [(c0, .inr (1, [.ref c1, .ref c2])), (c2, .inl (κ.2 0, 6, .inl (oA (mkP pk s9 ix 6))))]) := by
  refine cmv_of RX1 rfl (by decide) (Nat.le_of_ble_eq_true rfl) ?_
  intro p e s m below meth c A C hAe hA hini
  refine g_lv (lv' := [(0, .ref c0), (1, .int (nI s9)), (2, .int (oI ix))]) [0, 1, 2] rfl ?_
  refine g_iconst (pc' := 1) (v := nI 0) C dX1_mark_0 (by decide) rfl ?_
  refine g_istore_n (pc' := 2) (lv' := [(3, .int (nI 0)), (0, .ref c0), (1, .int (nI s9)), (2, .int (oI ix))]) C dX1_mark_1 rfl (by decide) rfl rfl ?_
  have lp_a : ∀ (fu_a : Nat) (i : Nat) (pl : Nat → Option Nat), (i ≤ 6) → (pl = mkP pk s9 ix i) → (6 - i) < fu_a → G p l e (rmv 0 0 0) s m ([.ref c0, .int (nI s9), .int (oI ix)] : List Value).toArray below meth c κ 4 (JM A s) [(c0, .inr (1, [.ref c1, .ref c2])), (c2, .inl (κ.2 0, 6, .inl (oA pl)))] 0 0 (MQ below (QMv κ [(c0, .inr (1, [.ref c1, .ref c2])), (c2, .inl (κ.2 0, 6, .inl (oA pk)))] s.heap.size (fun (vw_ : va_W) => vw_ = [(c0, .inr (1, [.ref c1, .ref c2])), (c2, .inl (κ.2 0, 6, .inl (oA (mkP pk s9 ix 6))))])) ([.ref c0, .int (nI s9), .int (oI ix)] : List Value).toArray s 0 0 A) 2 [(3, .int (nI i)), (0, .ref c0), (1, .int (nI s9)), (2, .int (oI ix))] [] := by
    intro fu_a
    induction fu_a with
    | zero => intro i pl hi hp hmu; exact absurd hmu (Nat.not_lt_zero _)
    | succ fu_a ih_a =>
      intro i pl hi hp hmu_a
      refine g_iload_n (pc' := 3) C 0 dX1_mark_2 rfl rfl rfl ?_
      refine g_bipush (pc' := 5) (v := nI 6) C dX1_mark_3 (by decide) rfl ?_
      refine g_icmp_geN (pc' := 8) (tgt := 30) C (by first | assumption | omega) (by first | assumption | omega) dX1_mark_5 (by decide) rfl (fun c_5_1 => ?_) (fun c_5_1 => ?_)
      · exact g_retMv C hAe rfl (Nat.le_of_ble_eq_true rfl) (Nat.le_of_ble_eq_true rfl) (by have e : i = 6 := (by omega); subst e; rw [hp]) dX1_mark_30
      · refine g_iload_n (pc' := 9) C 2 dX1_mark_8 rfl rfl rfl ?_
        refine g_iload_n (pc' := 10) C 0 dX1_mark_9 rfl rfl rfl ?_
        refine g_ishr (pc' := 11) (v := nI (s9 / 2 ^ i)) C dX1_mark_10 (nI_shr _ _ (by first | assumption | omega) (by first | assumption | omega)) rfl ?_
        refine g_iconst (pc' := 12) (v := nI 1) C dX1_mark_11 (by decide) rfl ?_
        refine g_iand (pc' := 13) (v := nI ((s9 / 2 ^ i) &&& 1)) C dX1_mark_12 (nI_and _ _) rfl ?_
        refine g_iconst (pc' := 14) (v := nI 1) C dX1_mark_13 (by decide) rfl ?_
        refine g_icmp_neN (pc' := 17) (tgt := 24) C (by have h : s9 / 2 ^ i &&& 1 ≤ 1 := Nat.and_le_right; omega) (by first | assumption | omega) dX1_mark_14 (by decide) rfl (fun c_14_2 => ?_) (fun c_14_2 => ?_)
        · refine g_iinc (pc' := 27) (v := nI (i + 1)) (lv' := [(3, .int (nI (i + 1))), (0, .ref c0), (1, .int (nI s9)), (2, .int (oI ix))]) C 0 dX1_mark_24 rfl (iincN1 _) (by decide) rfl rfl ?_
          refine g_goto (tgt := 2) C dX1_mark_27 (by decide) ?_
          exact ih_a (i + 1) pl (by first | assumption | omega) (by rw [mkP, if_neg (tb_n c_14_2), hp]) (by omega)
        · refine g_aload_n (pc' := 18) C 1 dX1_mark_17 rfl rfl rfl ?_
          refine g_get (pc' := 21) C fl_RX1_16_1 0 rfl rfl dX1_mark_18 rfl ?_
          refine g_iload_n (pc' := 22) C 0 dX1_mark_21 rfl rfl rfl ?_
          refine g_iload_n (pc' := 23) C 3 dX1_mark_22 rfl rfl rfl ?_
          refine g_iastO (pc' := 24) (x := ix) (ws' := [(c0, .inr (1, [.ref c1, .ref c2])), (c2, .inl (κ.2 0, 6, .inl (oA (va_up pl i ix))))]) C 1 rfl rfl i (by first | assumption | omega) (by decide) rfl dX1_mark_23 rfl ?_
          refine g_iinc (pc' := 27) (v := nI (i + 1)) (lv' := [(3, .int (nI (i + 1))), (0, .ref c0), (1, .int (nI s9)), (2, .int (oI ix))]) C 0 dX1_mark_24 rfl (iincN1 _) (by decide) rfl rfl ?_
          refine g_goto (tgt := 2) C dX1_mark_27 (by decide) ?_
          exact ih_a (i + 1) (va_up pl i ix) (by first | assumption | omega) (by rw [mkP, if_pos (tb_t c_14_2), hp]) (by omega)
  exact lp_a 7 0 pk (Nat.zero_le _) rfl (by omega)

set_option maxHeartbeats 4000000 in
set_option maxRecDepth 100000 in
theorem kX1_pickAt (l : Launch) (κ : KK) (c0 : Nat) (c1 : Nat) (c2 : Nat) (pk : Nat → Option Nat) (pl : Nat) (hpl : pl < 6) : CP l yX1_pickAt cX1_pickAt 2 (some .int) 0 κ [.ref c0, .int (nI pl)] [(c0, .inr (1, [.ref c1, .ref c2])), (c2, .inl (κ.2 0, 6, .inl (oA pk)))] (fun vr_ => vr_ = oI (pk pl)) := by
  refine cp_of RX1 rfl (by decide) (Nat.le_of_ble_eq_true rfl) ?_
  intro p e s m below meth c C
  refine g_lv (lv' := [(0, .ref c0), (1, .int (nI pl))]) [0, 1] rfl ?_
  refine g_iload_n (pc' := 1) C 1 dX1_pickAt_0 rfl rfl rfl ?_
  refine g_if_ltN (pc' := 4) (tgt := 19) C (by first | assumption | omega) dX1_pickAt_1 (by decide) rfl ?_
  refine g_iload_n (pc' := 5) C 1 dX1_pickAt_4 rfl rfl rfl ?_
  refine g_bipush (pc' := 7) (v := nI 6) C dX1_pickAt_5 (by decide) rfl ?_
  refine g_icmp_geN (pc' := 10) (tgt := 19) C (by first | assumption | omega) (by first | assumption | omega) dX1_pickAt_7 (by decide) rfl (fun c_7_2 => absurd c_7_2 (by omega)) (fun c_7_2 => ?_)
  refine g_aload_n (pc' := 11) C 0 dX1_pickAt_10 rfl rfl rfl ?_
  refine g_get (pc' := 14) C fl_RX1_16_1 0 rfl rfl dX1_pickAt_11 rfl ?_
  refine g_iload_n (pc' := 15) C 1 dX1_pickAt_14 rfl rfl rfl ?_
  refine g_ialdO (pc' := 16) C 1 (f := pk) rfl pl (by first | assumption | omega) (by decide) dX1_pickAt_15 rfl ?_
  refine g_goto (tgt := 20) C dX1_pickAt_16 (by decide) ?_
  exact g_retP C rfl rfl (show oI (pk pl) = oI (pk pl) by rfl) dX1_pickAt_20
