set_option maxHeartbeats 4000000 in
set_option maxRecDepth 100000 in
theorem kX8_addRule (l : Launch) (hst : l.stackTraces = false) (κ : KK) (x0 : Nat) (a0 : Nat) (b0 : Nat) (q0 : Nat) (c0 : Nat) (k0 : Nat) (m1 : Nat) (m2 : Nat) (mc : Nat) (ds : Nat) (ba : Nat) (dy : Nat) (a1 : Nat) (a2 : Nat) (n : Nat) (fk : Nat → Nat) (fs : Nat → Nat) (p0 : Int32) (p1 : Int32) (hn : n ≤ 6) : CYi l yX8_addRule cX8_addRule 3 (some .int) 1 1 6 κ [.ref x0, .int p0, .int p1] [(x0, .inr (7, [.ref a0, .ref b0, .ref q0, .ref c0, .ref k0, .ref m1, .ref m2, .int (nI mc), .int (nI ds), .int (nI ba), .int (nI dy)])), (a0, .inr (3, [.ref a1, .ref a2, .int (nI n)])), (a1, .inl (κ.2 0, 6, .inl (nA fk))), (a2, .inl (κ.2 0, 6, .inl (nA fs)))] (fun (E : String) => (E = E_IAE ∧ c_addRule p0 p1 n = 1) ∨ (E = E_ISE ∧ c_addRule p0 p1 n = 2)) (fun (vr_ : Int32) (vw_ : va_W) => (c_addRule p0 p1 n = 0) ∧ vr_ = nI n ∧ vw_ = [(x0, .inr (7, [.ref a0, .ref b0, .ref q0, .ref c0, .ref k0, .ref m1, .ref m2, .int (nI mc), .int (nI ds), .int (nI ba), .int (nI dy)])), (a0, .inr (3, [.ref a1, .ref a2, .int (nI (n + 1))])), (a1, .inl (κ.2 0, 6, .inl (nA (va_up fk n (n9 p0))))), (a2, .inl (κ.2 0, 6, .inl (nA (va_up fs n (n9 p1)))))]) := by
  refine cyi_of hst RX8 rfl (by decide) (Nat.le_of_ble_eq_true rfl) ?_
  intro p e s m below meth c A C Y hAe hA
  refine g_lv (lv' := [(0, .ref x0), (1, .int p0), (2, .int p1)]) [0, 1, 2] rfl ?_
  refine g_iload_n (pc' := 1) C 1 dX8_addRule_0 rfl rfl rfl ?_
  refine g_if_lt (pc' := 4) (tgt := 20) C dX8_addRule_1 (by decide) rfl (fun c_1_1 => ?_) (fun c_1_1 => ?_)
  · rw [z_lt0] at c_1_1
    exact g_throw C Y th_IAE st_60 hAe (Or.inl ⟨rfl, by rw [c_addRule, if_neg (fun q => by have q1 := inZ_s q.1; have q2 := inZ_s q.2; omega)]⟩) (Nat.le_of_ble_eq_true rfl) ⟨(Nat.le_of_ble_eq_true rfl), (Nat.le_of_ble_eq_true rfl)⟩ (Nat.le_of_ble_eq_true rfl) (Nat.le_of_ble_eq_true rfl) (Nat.le_of_ble_eq_true rfl) (Nat.le_of_ble_eq_true rfl) [0, 1, 2, 3] rfl dX8_addRule_20 dX8_addRule_23 dX8_addRule_24 dX8_addRule_26 dX8_addRule_29
  · rw [z_lt0] at c_1_1
    refine g_iload_n (pc' := 5) C 1 dX8_addRule_4 rfl rfl rfl ?_
    refine g_iconst (pc' := 6) (v := nI 3) C dX8_addRule_5 (by decide) rfl ?_
    refine g_icmp_ge (pc' := 9) (tgt := 20) C dX8_addRule_6 (by decide) rfl (fun c_6_2 => ?_) (fun c_6_2 => ?_)
    · rw [z_ge (by decide)] at c_6_2
      exact g_throw C Y th_IAE st_60 hAe (Or.inl ⟨rfl, by rw [c_addRule, if_neg (fun q => by have q1 := inZ_s q.1; have q2 := inZ_s q.2; omega)]⟩) (Nat.le_of_ble_eq_true rfl) ⟨(Nat.le_of_ble_eq_true rfl), (Nat.le_of_ble_eq_true rfl)⟩ (Nat.le_of_ble_eq_true rfl) (Nat.le_of_ble_eq_true rfl) (Nat.le_of_ble_eq_true rfl) (Nat.le_of_ble_eq_true rfl) [0, 1, 2, 3] rfl dX8_addRule_20 dX8_addRule_23 dX8_addRule_24 dX8_addRule_26 dX8_addRule_29
    · rw [z_ge (by decide)] at c_6_2
      refine g_iload_n (pc' := 10) C 2 dX8_addRule_9 rfl rfl rfl ?_
      refine g_iconst (pc' := 11) (v := nI 1) C dX8_addRule_10 (by decide) rfl ?_
      refine g_icmp_lt (pc' := 14) (tgt := 20) C dX8_addRule_11 (by decide) rfl (fun c_11_3 => ?_) (fun c_11_3 => ?_)
      · rw [z_lt (by decide)] at c_11_3
        exact g_throw C Y th_IAE st_60 hAe (Or.inl ⟨rfl, by rw [c_addRule, if_neg (fun q => by have q1 := inZ_s q.1; have q2 := inZ_s q.2; omega)]⟩) (Nat.le_of_ble_eq_true rfl) ⟨(Nat.le_of_ble_eq_true rfl), (Nat.le_of_ble_eq_true rfl)⟩ (Nat.le_of_ble_eq_true rfl) (Nat.le_of_ble_eq_true rfl) (Nat.le_of_ble_eq_true rfl) (Nat.le_of_ble_eq_true rfl) [0, 1, 2, 3] rfl dX8_addRule_20 dX8_addRule_23 dX8_addRule_24 dX8_addRule_26 dX8_addRule_29
      · rw [z_lt (by decide)] at c_11_3
        refine g_iload_n (pc' := 15) C 2 dX8_addRule_14 rfl rfl rfl ?_
        refine g_bipush (pc' := 17) (v := nI 50) C dX8_addRule_15 (by decide) rfl ?_
        refine g_icmp_le (pc' := 20) (tgt := 30) C dX8_addRule_17 (by decide) rfl (fun c_17_4 => ?_) (fun c_17_4 => ?_)
        · rw [z_le (by decide)] at c_17_4
          have z0 : inZ 0 2 p0 = true := inZ_t (by omega) (by omega)
          have z1 : inZ 1 50 p1 = true := inZ_t (by omega) (by omega)
          obtain ⟨kd, -, hkd, rfl⟩ := inZ_w z0 (by decide)
          obtain ⟨sp, -, hsp, rfl⟩ := inZ_w z1 (by decide)
          refine g_aload_n (pc' := 31) C 0 dX8_addRule_30 rfl rfl rfl ?_
          refine g_get (pc' := 34) C fl_RX8_12_7 0 rfl rfl dX8_addRule_31 rfl ?_
          refine g_callP (pc' := 37) C lk_RX8_65 (kX4_isFull l κ a0 a1 a2 n (by first | assumption | omega)) 1 rfl rfl [1] rfl rfl (Nat.le_of_ble_eq_true rfl) ⟨Nat.le_of_ble_eq_true rfl, Nat.le_of_ble_eq_true rfl⟩ ⟨Nat.le_of_ble_eq_true rfl, Nat.le_of_ble_eq_true rfl⟩ rfl dX8_addRule_34 rfl (fun r_34_5 h_34_5 => ?_)
          obtain rfl : r_34_5 = b2i (decide (6 ≤ n)) := h_34_5
          refine g_if_eqB (pc' := 40) (tgt := 50) C dX8_addRule_37 (by decide) rfl (fun c_37_6 => ?_) (fun c_37_6 => ?_)
          · refine g_aload_n (pc' := 51) C 0 dX8_addRule_50 rfl rfl rfl ?_
            refine g_get (pc' := 54) C fl_RX8_12_7 0 rfl rfl dX8_addRule_51 rfl ?_
            refine g_iload_n (pc' := 55) C 1 dX8_addRule_54 rfl rfl rfl ?_
            refine g_iload_n (pc' := 56) C 2 dX8_addRule_55 rfl rfl rfl ?_
            refine g_callMi (pc' := 59) (wr := [(x0, .inr (7, [.ref a0, .ref b0, .ref q0, .ref c0, .ref k0, .ref m1, .ref m2, .int (nI mc), .int (nI ds), .int (nI ba), .int (nI dy)]))]) C hA lk_RX8_74 (kX4_put l κ a0 a1 a2 n fk fs kd sp (by simpa using c_37_6)) 1 rfl rfl [1, 2, 3] [0] rfl rfl ⟨rfl, rfl, by decide⟩ rfl (Nat.le_of_ble_eq_true rfl) ⟨Nat.le_of_ble_eq_true rfl, Nat.le_of_ble_eq_true rfl⟩ ⟨Nat.le_of_ble_eq_true rfl, Nat.le_of_ble_eq_true rfl⟩ rfl dX8_addRule_56 rfl (fun r_56_7 w_56_7 h_56_7 => ?_)
            obtain ⟨rfl, rfl⟩ : r_56_7 = nI n ∧ w_56_7 = [(a0, .inr (3, [.ref a1, .ref a2, .int (nI (n + 1))])), (a1, .inl (κ.2 0, 6, .inl (nA (va_up fk n kd)))), (a2, .inl (κ.2 0, 6, .inl (nA (va_up fs n sp))))] := h_56_7
            show G p l e (rmv 1 1 6) s m ([.ref x0, .int (nI kd), .int (nI sp)] : List Value).toArray below meth c κ 3 (JM A s) [(x0, .inr (7, [.ref a0, .ref b0, .ref q0, .ref c0, .ref k0, .ref m1, .ref m2, .int (nI mc), .int (nI ds), .int (nI ba), .int (nI dy)])), (a0, .inr (3, [.ref a1, .ref a2, .int (nI (n + 1))])), (a1, .inl (κ.2 0, 6, .inl (nA (va_up fk n kd)))), (a2, .inl (κ.2 0, 6, .inl (nA (va_up fs n sp))))] 0 0 (vx_MQ below (QMi κ [(x0, .inr (7, [.ref a0, .ref b0, .ref q0, .ref c0, .ref k0, .ref m1, .ref m2, .int (nI mc), .int (nI ds), .int (nI ba), .int (nI dy)])), (a0, .inr (3, [.ref a1, .ref a2, .int (nI n)])), (a1, .inl (κ.2 0, 6, .inl (nA fk))), (a2, .inl (κ.2 0, 6, .inl (nA fs)))] s.heap.size (fun (vr_ : Int32) (vw_ : va_W) => (c_addRule (nI kd) (nI sp) n = 0) ∧ vr_ = nI n ∧ vw_ = [(x0, .inr (7, [.ref a0, .ref b0, .ref q0, .ref c0, .ref k0, .ref m1, .ref m2, .int (nI mc), .int (nI ds), .int (nI ba), .int (nI dy)])), (a0, .inr (3, [.ref a1, .ref a2, .int (nI (n + 1))])), (a1, .inl (κ.2 0, 6, .inl (nA (va_up fk n (n9 (nI kd)))))), (a2, .inl (κ.2 0, 6, .inl (nA (va_up fs n (n9 (nI sp))))))])) (XPw κ [(x0, .inr (7, [.ref a0, .ref b0, .ref q0, .ref c0, .ref k0, .ref m1, .ref m2, .int (nI mc), .int (nI ds), .int (nI ba), .int (nI dy)])), (a0, .inr (3, [.ref a1, .ref a2, .int (nI n)])), (a1, .inl (κ.2 0, 6, .inl (nA fk))), (a2, .inl (κ.2 0, 6, .inl (nA fs)))] s.heap.size (fun (E : String) => (E = E_IAE ∧ c_addRule (nI kd) (nI sp) n = 1) ∨ (E = E_ISE ∧ c_addRule (nI kd) (nI sp) n = 2))) ([.ref x0, .int (nI kd), .int (nI sp)] : List Value).toArray s 1 6 A) 59 [(0, .ref x0), (1, .int (nI kd)), (2, .int (nI sp))] [.int (nI n)]
            refine g_x ?_
            exact g_retMi C hAe rfl rfl (Nat.le_of_ble_eq_true rfl) (Nat.le_of_ble_eq_true rfl) (⟨by simp [c_addRule, z0, z1, of_decide_eq_false c_37_6], rfl, by simp only [n9_nI (show kd < 2147483648 by omega), n9_nI (show sp < 2147483648 by omega)]⟩) dX8_addRule_59
          · exact g_throw C Y th_ISE st_71 hAe (Or.inr ⟨rfl, by simp [c_addRule, z0, z1, of_decide_eq_true c_37_6]⟩) (Nat.le_of_ble_eq_true rfl) ⟨(Nat.le_of_ble_eq_true rfl), (Nat.le_of_ble_eq_true rfl)⟩ (Nat.le_of_ble_eq_true rfl) (Nat.le_of_ble_eq_true rfl) (Nat.le_of_ble_eq_true rfl) (Nat.le_of_ble_eq_true rfl) [0, 1, 2, 3] rfl dX8_addRule_40 dX8_addRule_43 dX8_addRule_44 dX8_addRule_46 dX8_addRule_49
        · rw [z_le (by decide)] at c_17_4
          exact g_throw C Y th_IAE st_60 hAe (Or.inl ⟨rfl, by rw [c_addRule, if_neg (fun q => by have q1 := inZ_s q.1; have q2 := inZ_s q.2; omega)]⟩) (Nat.le_of_ble_eq_true rfl) ⟨(Nat.le_of_ble_eq_true rfl), (Nat.le_of_ble_eq_true rfl)⟩ (Nat.le_of_ble_eq_true rfl) (Nat.le_of_ble_eq_true rfl) (Nat.le_of_ble_eq_true rfl) (Nat.le_of_ble_eq_true rfl) [0, 1, 2, 3] rfl dX8_addRule_20 dX8_addRule_23 dX8_addRule_24 dX8_addRule_26 dX8_addRule_29

set_option maxHeartbeats 4000000 in
set_option maxRecDepth 100000 in
theorem kX8_part (l : Launch) (hst : l.stackTraces = false) (κ : KK) (x0 : Nat) (a0 : Nat) (b0 : Nat) (q0 : Nat) (c0 : Nat) (k0 : Nat) (m1 : Nat) (m2 : Nat) (mc : Nat) (ds : Nat) (ba : Nat) (dy : Nat) (dr : Nat → Option Nat) (p0 : Int32) (hd : ds ≤ 4) : CYi l yX8_part cX8_part 2 (some .int) 1 2 12 κ [.ref x0, .int p0] [(x0, .inr (7, [.ref a0, .ref b0, .ref q0, .ref c0, .ref k0, .ref m1, .ref m2, .int (nI mc), .int (nI ds), .int (nI ba), .int (nI dy)])), (m2, .inl (κ.2 0, 4, .inl (oA dr)))] (fun (E : String) => (E = E_IOB ∧ c_part p0 ds = 1) ∨ (E = E_ISE ∧ c_part p0 ds = 2)) (fun (vr_ : Int32) (vw_ : va_W) => (c_part p0 ds = 0) ∧ vr_ = nI (ds + 1) ∧ vw_ = [(x0, .inr (7, [.ref a0, .ref b0, .ref q0, .ref c0, .ref k0, .ref m1, .ref m2, .int (nI mc), .int (nI (ds + 1)), .int (nI ba), .int (nI dy)])), (m2, .inl (κ.2 0, 4, .inl (oA (va_up dr ds (oP p0)))))]) := by
  refine cyi_of hst RX8 rfl (by decide) (Nat.le_of_ble_eq_true rfl) ?_
  intro p e s m below meth c A C Y hAe hA
  refine g_lv (lv' := [(0, .ref x0), (1, .int p0)]) [0, 1] rfl ?_
  refine g_iload_n (pc' := 1) C 1 dX8_part_0 rfl rfl rfl ?_
  refine g_iconst (pc' := 2) (v := (-1)) C dX8_part_1 (by decide) rfl ?_
  refine g_icmp_eq (pc' := 5) (tgt := 9) C dX8_part_2 (by decide) rfl (fun c_2_1 => ?_) (fun c_2_1 => ?_)
  · rw [z_m1] at c_2_1
    obtain rfl : p0 = -1 := z_m1.mpr c_2_1
    refine g_aload_n (pc' := 10) C 0 dX8_part_9 rfl rfl rfl ?_
    refine g_get (pc' := 13) C fl_RX8_86_7 0 rfl rfl dX8_part_10 rfl ?_
    refine g_aload_n (pc' := 14) C 0 dX8_part_13 rfl rfl rfl ?_
    refine g_get (pc' := 17) C fl_RX8_50_7 0 rfl rfl dX8_part_14 rfl ?_
    refine g_alen (pc' := 18) C 1 0 rfl rfl dX8_part_17 rfl ?_
    refine g_icmp_ltN (pc' := 21) (tgt := 31) C (by first | assumption | omega) (by first | assumption | omega) dX8_part_18 (by decide) rfl (fun c_18_2 => ?_) (fun c_18_2 => ?_)
    · refine g_iload_n (pc' := 32) C 1 dX8_part_31 rfl rfl rfl ?_
      refine g_iconst (pc' := 33) (v := (-1)) C dX8_part_32 (by decide) rfl ?_
      refine g_icmp_ne (pc' := 36) (tgt := 53) C dX8_part_33 (by decide) rfl (fun c_33_3 => absurd c_33_3 (by simp)) (fun c_33_3 => ?_)
      refine g_aload_n (pc' := 37) C 0 dX8_part_36 rfl rfl rfl ?_
      refine g_get (pc' := 40) C fl_RX8_86_7 0 rfl rfl dX8_part_37 rfl ?_
      refine g_if_neN (pc' := 43) (tgt := 53) C (by first | assumption | omega) dX8_part_40 (by decide) rfl (fun c_40_4 => ?_) (fun c_40_4 => ?_)
      · refine g_aload_n (pc' := 54) C 0 dX8_part_53 rfl rfl rfl ?_
        refine g_get (pc' := 57) C fl_RX8_50_7 0 rfl rfl dX8_part_54 rfl ?_
        refine g_aload_n (pc' := 58) C 0 dX8_part_57 rfl rfl rfl ?_
        refine g_get (pc' := 61) C fl_RX8_86_7 0 rfl rfl dX8_part_58 rfl ?_
        refine g_iload_n (pc' := 62) C 1 dX8_part_61 rfl rfl rfl ?_
        refine g_iastO (pc' := 63) (x := none) (ws' := [(x0, .inr (7, [.ref a0, .ref b0, .ref q0, .ref c0, .ref k0, .ref m1, .ref m2, .int (nI mc), .int (nI ds), .int (nI ba), .int (nI dy)])), (m2, .inl (κ.2 0, 4, .inl (oA (va_up dr ds none))))]) C 1 rfl rfl ds (by first | assumption | omega) (by decide) rfl dX8_part_62 rfl ?_
        refine g_aload_n (pc' := 64) C 0 dX8_part_63 rfl rfl rfl ?_
        refine g_dup (pc' := 65) C dX8_part_64 rfl rfl ?_
        refine g_get (pc' := 68) C fl_RX8_86_7 0 rfl rfl dX8_part_65 rfl ?_
        refine g_iconst (pc' := 69) (v := nI 1) C dX8_part_68 (by decide) rfl ?_
        refine g_iadd (pc' := 70) (v := nI (ds + 1)) C dX8_part_69 (nI_add _ _) rfl ?_
        refine g_put (pc' := 73) (ws' := [(x0, .inr (7, [.ref a0, .ref b0, .ref q0, .ref c0, .ref k0, .ref m1, .ref m2, .int (nI mc), .int (nI (ds + 1)), .int (nI ba), .int (nI dy)])), (m2, .inl (κ.2 0, 4, .inl (oA (va_up dr ds none))))]) C fp_RX8_86_7 0 rfl rfl rfl (Nat.le_of_ble_eq_true rfl) rfl dX8_part_70 rfl ?_
        refine g_aload_n (pc' := 74) C 0 dX8_part_73 rfl rfl rfl ?_
        refine g_get (pc' := 77) C fl_RX8_86_7 0 rfl rfl dX8_part_74 rfl ?_
        refine g_x ?_
        exact g_retMi C hAe rfl rfl (Nat.le_of_ble_eq_true rfl) (Nat.le_of_ble_eq_true rfl) (⟨by rw [c_part, if_neg (fun q => q.1 rfl), if_neg (by omega)], rfl, rfl⟩) dX8_part_77
      · exact g_throw C Y th_ISE st_91 hAe (Or.inr ⟨rfl, by rw [c_part, if_neg (fun q => q.1 rfl), if_pos (Or.inr ⟨rfl, by omega⟩)]⟩) (Nat.le_of_ble_eq_true rfl) ⟨(Nat.le_of_ble_eq_true rfl), (Nat.le_of_ble_eq_true rfl)⟩ (Nat.le_of_ble_eq_true rfl) (Nat.le_of_ble_eq_true rfl) (Nat.le_of_ble_eq_true rfl) (Nat.le_of_ble_eq_true rfl) [0, 1] rfl dX8_part_43 dX8_part_46 dX8_part_47 dX8_part_49 dX8_part_52
    · exact g_throw C Y th_ISE st_89 hAe (Or.inr ⟨rfl, by rw [c_part, if_neg (fun q => q.1 rfl), if_pos (Or.inl (by omega))]⟩) (Nat.le_of_ble_eq_true rfl) ⟨(Nat.le_of_ble_eq_true rfl), (Nat.le_of_ble_eq_true rfl)⟩ (Nat.le_of_ble_eq_true rfl) (Nat.le_of_ble_eq_true rfl) (Nat.le_of_ble_eq_true rfl) (Nat.le_of_ble_eq_true rfl) [0, 1] rfl dX8_part_21 dX8_part_24 dX8_part_25 dX8_part_27 dX8_part_30
  · rw [z_m1] at c_2_1
    refine g_iload_n (pc' := 6) C 1 dX8_part_5 rfl rfl rfl ?_
    refine g_callYSv (pc' := 9) (wr := [(x0, .inr (7, [.ref a0, .ref b0, .ref q0, .ref c0, .ref k0, .ref m1, .ref m2, .int (nI mc), .int (nI ds), .int (nI ba), .int (nI dy)])), (m2, .inl (κ.2 0, 4, .inl (oA dr)))]) C Y hA hAe ml_RX8_78 lk_RX8_78 (kX8_needWord l hst κ p0) [] [0, 1] rfl rfl ⟨rfl, rfl, by decide⟩ [0, 1] rfl (fun E h => Or.inl ⟨h.1, by rw [c_part, if_pos ⟨fun q => c_2_1 (z_m1.mp q), h.2⟩]⟩) ⟨Nat.le_of_ble_eq_true rfl, Nat.le_of_ble_eq_true rfl⟩ rfl (Nat.le_of_ble_eq_true rfl) ⟨Nat.le_of_ble_eq_true rfl, Nat.le_of_ble_eq_true rfl⟩ ⟨Nat.le_of_ble_eq_true rfl, Nat.le_of_ble_eq_true rfl⟩ rfl dX8_part_6 rfl (fun w_6_5 h_6_5 => ?_)
    obtain ⟨hw_5, rfl⟩ : (inZ 0 99 p0 = true) ∧ w_6_5 = [] := h_6_5
    show G p l e (rmv 1 2 12) s m ([.ref x0, .int p0] : List Value).toArray below meth c κ 2 (JM A s) [(x0, .inr (7, [.ref a0, .ref b0, .ref q0, .ref c0, .ref k0, .ref m1, .ref m2, .int (nI mc), .int (nI ds), .int (nI ba), .int (nI dy)])), (m2, .inl (κ.2 0, 4, .inl (oA dr)))] 1 6 (vx_MQ below (QMi κ [(x0, .inr (7, [.ref a0, .ref b0, .ref q0, .ref c0, .ref k0, .ref m1, .ref m2, .int (nI mc), .int (nI ds), .int (nI ba), .int (nI dy)])), (m2, .inl (κ.2 0, 4, .inl (oA dr)))] s.heap.size (fun (vr_ : Int32) (vw_ : va_W) => (c_part p0 ds = 0) ∧ vr_ = nI (ds + 1) ∧ vw_ = [(x0, .inr (7, [.ref a0, .ref b0, .ref q0, .ref c0, .ref k0, .ref m1, .ref m2, .int (nI mc), .int (nI (ds + 1)), .int (nI ba), .int (nI dy)])), (m2, .inl (κ.2 0, 4, .inl (oA (va_up dr ds (oP p0)))))])) (XPw κ [(x0, .inr (7, [.ref a0, .ref b0, .ref q0, .ref c0, .ref k0, .ref m1, .ref m2, .int (nI mc), .int (nI ds), .int (nI ba), .int (nI dy)])), (m2, .inl (κ.2 0, 4, .inl (oA dr)))] s.heap.size (fun (E : String) => (E = E_IOB ∧ c_part p0 ds = 1) ∨ (E = E_ISE ∧ c_part p0 ds = 2))) ([.ref x0, .int p0] : List Value).toArray s 2 12 A) 9 [(0, .ref x0), (1, .int p0)] []
    have z0 := hw_5
    obtain ⟨w9, -, hw9, rfl⟩ := inZ_w z0 (by decide)
    refine g_aload_n (pc' := 10) C 0 dX8_part_9 rfl rfl rfl ?_
    refine g_get (pc' := 13) C fl_RX8_86_7 0 rfl rfl dX8_part_10 rfl ?_
    refine g_aload_n (pc' := 14) C 0 dX8_part_13 rfl rfl rfl ?_
    refine g_get (pc' := 17) C fl_RX8_50_7 0 rfl rfl dX8_part_14 rfl ?_
    refine g_alen (pc' := 18) C 1 0 rfl rfl dX8_part_17 rfl ?_
    refine g_icmp_ltN (pc' := 21) (tgt := 31) C (by first | assumption | omega) (by first | assumption | omega) dX8_part_18 (by decide) rfl (fun c_18_6 => ?_) (fun c_18_6 => ?_)
    · refine g_iload_n (pc' := 32) C 1 dX8_part_31 rfl rfl rfl ?_
      refine g_iconst (pc' := 33) (v := (-1)) C dX8_part_32 (by decide) rfl ?_
      refine g_icmp_ne (pc' := 36) (tgt := 53) C dX8_part_33 (by decide) rfl (fun c_33_7 => ?_) (fun c_33_7 => absurd c_33_7 (by exact nI_m1 (by omega)))
      refine g_aload_n (pc' := 54) C 0 dX8_part_53 rfl rfl rfl ?_
      refine g_get (pc' := 57) C fl_RX8_50_7 0 rfl rfl dX8_part_54 rfl ?_
      refine g_aload_n (pc' := 58) C 0 dX8_part_57 rfl rfl rfl ?_
      refine g_get (pc' := 61) C fl_RX8_86_7 0 rfl rfl dX8_part_58 rfl ?_
      refine g_iload_n (pc' := 62) C 1 dX8_part_61 rfl rfl rfl ?_
      refine g_iastO (pc' := 63) (x := some w9) (ws' := [(x0, .inr (7, [.ref a0, .ref b0, .ref q0, .ref c0, .ref k0, .ref m1, .ref m2, .int (nI mc), .int (nI ds), .int (nI ba), .int (nI dy)])), (m2, .inl (κ.2 0, 4, .inl (oA (va_up dr ds (some w9)))))]) C 1 rfl rfl ds (by first | assumption | omega) (by decide) rfl dX8_part_62 rfl ?_
      refine g_aload_n (pc' := 64) C 0 dX8_part_63 rfl rfl rfl ?_
      refine g_dup (pc' := 65) C dX8_part_64 rfl rfl ?_
      refine g_get (pc' := 68) C fl_RX8_86_7 0 rfl rfl dX8_part_65 rfl ?_
      refine g_iconst (pc' := 69) (v := nI 1) C dX8_part_68 (by decide) rfl ?_
      refine g_iadd (pc' := 70) (v := nI (ds + 1)) C dX8_part_69 (nI_add _ _) rfl ?_
      refine g_put (pc' := 73) (ws' := [(x0, .inr (7, [.ref a0, .ref b0, .ref q0, .ref c0, .ref k0, .ref m1, .ref m2, .int (nI mc), .int (nI (ds + 1)), .int (nI ba), .int (nI dy)])), (m2, .inl (κ.2 0, 4, .inl (oA (va_up dr ds (some w9)))))]) C fp_RX8_86_7 0 rfl rfl rfl (Nat.le_of_ble_eq_true rfl) rfl dX8_part_70 rfl ?_
      refine g_aload_n (pc' := 74) C 0 dX8_part_73 rfl rfl rfl ?_
      refine g_get (pc' := 77) C fl_RX8_86_7 0 rfl rfl dX8_part_74 rfl ?_
      refine g_x ?_
      exact g_retMi C hAe rfl rfl (Nat.le_of_ble_eq_true rfl) (Nat.le_of_ble_eq_true rfl) (⟨by rw [c_part, if_neg (fun q => by rw [z0] at q; cases q.2), if_neg (fun q => q.elim (fun q => by omega) (fun q => nI_m1 (by omega) q.1))], rfl, by rw [oP_nI (by omega)]⟩) dX8_part_77
    · exact g_throw C Y th_ISE st_89 hAe (Or.inr ⟨rfl, by rw [c_part, if_neg (fun q => by rw [z0] at q; cases q.2), if_pos (Or.inl (by omega))]⟩) (Nat.le_of_ble_eq_true rfl) ⟨(Nat.le_of_ble_eq_true rfl), (Nat.le_of_ble_eq_true rfl)⟩ (Nat.le_of_ble_eq_true rfl) (Nat.le_of_ble_eq_true rfl) (Nat.le_of_ble_eq_true rfl) (Nat.le_of_ble_eq_true rfl) [0, 1] rfl dX8_part_21 dX8_part_24 dX8_part_25 dX8_part_27 dX8_part_30

set_option maxHeartbeats 4000000 in
set_option maxRecDepth 100000 in
theorem kX8_say (l : Launch) (hst : l.stackTraces = false) (κ : KK) (x0 : Nat) (a0 : Nat) (b0 : Nat) (q0 : Nat) (c0 : Nat) (k0 : Nat) (m1 : Nat) (m2 : Nat) (mc : Nat) (ds : Nat) (ba : Nat) (dy : Nat) (b1 : Nat) (len : Nat) (fw : Nat → Nat) (p0 : Int32) (hl : len ≤ 6) : CYi l yX8_say cX8_say 2 (some .int) 1 2 12 κ [.ref x0, .int p0] [(x0, .inr (7, [.ref a0, .ref b0, .ref q0, .ref c0, .ref k0, .ref m1, .ref m2, .int (nI mc), .int (nI ds), .int (nI ba), .int (nI dy)])), (b0, .inr (4, [.ref b1, .int (nI len)])), (b1, .inl (κ.2 0, 6, .inl (nA fw)))] (fun (E : String) => (E = E_IOB ∧ c_say p0 len = 1) ∨ (E = E_ISE ∧ c_say p0 len = 2)) (fun (vr_ : Int32) (vw_ : va_W) => (c_say p0 len = 0) ∧ vr_ = nI (len + 1) ∧ vw_ = [(x0, .inr (7, [.ref a0, .ref b0, .ref q0, .ref c0, .ref k0, .ref m1, .ref m2, .int (nI mc), .int (nI ds), .int (nI ba), .int (nI dy)])), (b0, .inr (4, [.ref b1, .int (nI (len + 1))])), (b1, .inl (κ.2 0, 6, .inl (nA (va_up fw len (n9 p0)))))]) := by
  refine cyi_of hst RX8 rfl (by decide) (Nat.le_of_ble_eq_true rfl) ?_
  intro p e s m below meth c A C Y hAe hA
  refine g_lv (lv' := [(0, .ref x0), (1, .int p0)]) [0, 1] rfl ?_
  refine g_iload_n (pc' := 1) C 1 dX8_say_0 rfl rfl rfl ?_
  refine g_callYSv (pc' := 4) (wr := [(x0, .inr (7, [.ref a0, .ref b0, .ref q0, .ref c0, .ref k0, .ref m1, .ref m2, .int (nI mc), .int (nI ds), .int (nI ba), .int (nI dy)])), (b0, .inr (4, [.ref b1, .int (nI len)])), (b1, .inl (κ.2 0, 6, .inl (nA fw)))]) C Y hA hAe ml_RX8_78 lk_RX8_78 (kX8_needWord l hst κ p0) [] [0, 1, 2] rfl rfl ⟨rfl, rfl, by decide⟩ [0, 1, 2] rfl (fun E h => (Or.inl ⟨h.1, by have h9 := h.2; simp [c_say, h9]⟩)) ⟨Nat.le_of_ble_eq_true rfl, Nat.le_of_ble_eq_true rfl⟩ rfl (Nat.le_of_ble_eq_true rfl) ⟨Nat.le_of_ble_eq_true rfl, Nat.le_of_ble_eq_true rfl⟩ ⟨Nat.le_of_ble_eq_true rfl, Nat.le_of_ble_eq_true rfl⟩ rfl dX8_say_1 rfl (fun w_1_1 h_1_1 => ?_)
  obtain ⟨hw_1, rfl⟩ : (inZ 0 99 p0 = true) ∧ w_1_1 = [] := h_1_1
  show G p l e (rmv 1 2 12) s m ([.ref x0, .int p0] : List Value).toArray below meth c κ 2 (JM A s) [(x0, .inr (7, [.ref a0, .ref b0, .ref q0, .ref c0, .ref k0, .ref m1, .ref m2, .int (nI mc), .int (nI ds), .int (nI ba), .int (nI dy)])), (b0, .inr (4, [.ref b1, .int (nI len)])), (b1, .inl (κ.2 0, 6, .inl (nA fw)))] 1 6 (vx_MQ below (QMi κ [(x0, .inr (7, [.ref a0, .ref b0, .ref q0, .ref c0, .ref k0, .ref m1, .ref m2, .int (nI mc), .int (nI ds), .int (nI ba), .int (nI dy)])), (b0, .inr (4, [.ref b1, .int (nI len)])), (b1, .inl (κ.2 0, 6, .inl (nA fw)))] s.heap.size (fun (vr_ : Int32) (vw_ : va_W) => (c_say p0 len = 0) ∧ vr_ = nI (len + 1) ∧ vw_ = [(x0, .inr (7, [.ref a0, .ref b0, .ref q0, .ref c0, .ref k0, .ref m1, .ref m2, .int (nI mc), .int (nI ds), .int (nI ba), .int (nI dy)])), (b0, .inr (4, [.ref b1, .int (nI (len + 1))])), (b1, .inl (κ.2 0, 6, .inl (nA (va_up fw len (n9 p0)))))])) (XPw κ [(x0, .inr (7, [.ref a0, .ref b0, .ref q0, .ref c0, .ref k0, .ref m1, .ref m2, .int (nI mc), .int (nI ds), .int (nI ba), .int (nI dy)])), (b0, .inr (4, [.ref b1, .int (nI len)])), (b1, .inl (κ.2 0, 6, .inl (nA fw)))] s.heap.size (fun (E : String) => (E = E_IOB ∧ c_say p0 len = 1) ∨ (E = E_ISE ∧ c_say p0 len = 2))) ([.ref x0, .int p0] : List Value).toArray s 2 12 A) 4 [(0, .ref x0), (1, .int p0)] []
  have z0 := hw_1
  obtain ⟨w9, hw9l, hw9, rfl⟩ := inZ_w z0 (by decide)
  refine g_aload_n (pc' := 5) C 0 dX8_say_4 rfl rfl rfl ?_
  refine g_get (pc' := 8) C fl_RX8_19_7 0 rfl rfl dX8_say_5 rfl ?_
  refine g_callP (pc' := 11) C lk_RX8_135 (kX5_isFull l κ b0 b1 len (by first | assumption | omega)) 1 rfl rfl [1] rfl rfl (Nat.le_of_ble_eq_true rfl) ⟨Nat.le_of_ble_eq_true rfl, Nat.le_of_ble_eq_true rfl⟩ ⟨Nat.le_of_ble_eq_true rfl, Nat.le_of_ble_eq_true rfl⟩ rfl dX8_say_8 rfl (fun r_8_2 h_8_2 => ?_)
  obtain rfl : r_8_2 = b2i (decide (6 ≤ len)) := h_8_2
  refine g_if_eqB (pc' := 14) (tgt := 24) C dX8_say_11 (by decide) rfl (fun c_11_3 => ?_) (fun c_11_3 => ?_)
  · refine g_aload_n (pc' := 25) C 0 dX8_say_24 rfl rfl rfl ?_
    refine g_get (pc' := 28) C fl_RX8_19_7 0 rfl rfl dX8_say_25 rfl ?_
    refine g_iload_n (pc' := 29) C 1 dX8_say_28 rfl rfl rfl ?_
    refine g_callMi (pc' := 32) (wr := [(x0, .inr (7, [.ref a0, .ref b0, .ref q0, .ref c0, .ref k0, .ref m1, .ref m2, .int (nI mc), .int (nI ds), .int (nI ba), .int (nI dy)]))]) C hA lk_RX8_138 (kX5_put l κ b0 b1 len fw w9 (by simpa using c_11_3)) 1 rfl rfl [1, 2] [0] rfl rfl ⟨rfl, rfl, by decide⟩ rfl (Nat.le_of_ble_eq_true rfl) ⟨Nat.le_of_ble_eq_true rfl, Nat.le_of_ble_eq_true rfl⟩ ⟨Nat.le_of_ble_eq_true rfl, Nat.le_of_ble_eq_true rfl⟩ rfl dX8_say_29 rfl (fun r_29_4 w_29_4 h_29_4 => ?_)
    obtain ⟨rfl, rfl⟩ : r_29_4 = nI (len + 1) ∧ w_29_4 = [(b0, .inr (4, [.ref b1, .int (nI (len + 1))])), (b1, .inl (κ.2 0, 6, .inl (nA (va_up fw len w9))))] := h_29_4
    show G p l e (rmv 1 2 12) s m ([.ref x0, .int (nI w9)] : List Value).toArray below meth c κ 2 (JM A s) [(x0, .inr (7, [.ref a0, .ref b0, .ref q0, .ref c0, .ref k0, .ref m1, .ref m2, .int (nI mc), .int (nI ds), .int (nI ba), .int (nI dy)])), (b0, .inr (4, [.ref b1, .int (nI (len + 1))])), (b1, .inl (κ.2 0, 6, .inl (nA (va_up fw len w9))))] 1 6 (vx_MQ below (QMi κ [(x0, .inr (7, [.ref a0, .ref b0, .ref q0, .ref c0, .ref k0, .ref m1, .ref m2, .int (nI mc), .int (nI ds), .int (nI ba), .int (nI dy)])), (b0, .inr (4, [.ref b1, .int (nI len)])), (b1, .inl (κ.2 0, 6, .inl (nA fw)))] s.heap.size (fun (vr_ : Int32) (vw_ : va_W) => (c_say (nI w9) len = 0) ∧ vr_ = nI (len + 1) ∧ vw_ = [(x0, .inr (7, [.ref a0, .ref b0, .ref q0, .ref c0, .ref k0, .ref m1, .ref m2, .int (nI mc), .int (nI ds), .int (nI ba), .int (nI dy)])), (b0, .inr (4, [.ref b1, .int (nI (len + 1))])), (b1, .inl (κ.2 0, 6, .inl (nA (va_up fw len (n9 (nI w9))))))])) (XPw κ [(x0, .inr (7, [.ref a0, .ref b0, .ref q0, .ref c0, .ref k0, .ref m1, .ref m2, .int (nI mc), .int (nI ds), .int (nI ba), .int (nI dy)])), (b0, .inr (4, [.ref b1, .int (nI len)])), (b1, .inl (κ.2 0, 6, .inl (nA fw)))] s.heap.size (fun (E : String) => (E = E_IOB ∧ c_say (nI w9) len = 1) ∨ (E = E_ISE ∧ c_say (nI w9) len = 2))) ([.ref x0, .int (nI w9)] : List Value).toArray s 2 12 A) 32 [(0, .ref x0), (1, .int (nI w9))] [.int (nI (len + 1))]
    refine g_x ?_
    exact g_retMi C hAe rfl rfl (Nat.le_of_ble_eq_true rfl) (Nat.le_of_ble_eq_true rfl) (⟨by simp [c_say, z0, of_decide_eq_false c_11_3], rfl, by simp only [n9_nI (show w9 < 2147483648 by omega)]⟩) dX8_say_32
  · exact g_throw C Y th_ISE st_136 hAe (Or.inr ⟨rfl, by simp [c_say, z0, of_decide_eq_true c_11_3]⟩) (Nat.le_of_ble_eq_true rfl) ⟨(Nat.le_of_ble_eq_true rfl), (Nat.le_of_ble_eq_true rfl)⟩ (Nat.le_of_ble_eq_true rfl) (Nat.le_of_ble_eq_true rfl) (Nat.le_of_ble_eq_true rfl) (Nat.le_of_ble_eq_true rfl) [0, 1, 2] rfl dX8_say_14 dX8_say_17 dX8_say_18 dX8_say_20 dX8_say_23

set_option maxHeartbeats 4000000 in
set_option maxRecDepth 100000 in
theorem kX8_clear (l : Launch) (κ : KK) (x0 : Nat) (a0 : Nat) (b0 : Nat) (q0 : Nat) (c0 : Nat) (k0 : Nat) (m1 : Nat) (m2 : Nat) (mc : Nat) (ds : Nat) (ba : Nat) (dy : Nat) (b1 : Nat) (len : Nat) : CMi l yX8_clear cX8_clear 1 (some .int) 1 0 0 κ [.ref x0] [(x0, .inr (7, [.ref a0, .ref b0, .ref q0, .ref c0, .ref k0, .ref m1, .ref m2, .int (nI mc), .int (nI ds), .int (nI ba), .int (nI dy)])), (b0, .inr (4, [.ref b1, .int (nI len)]))] (fun (vr_ : Int32) (vw_ : va_W) => vr_ = nI len ∧ vw_ = [(x0, .inr (7, [.ref a0, .ref b0, .ref q0, .ref c0, .ref k0, .ref m1, .ref m2, .int (nI mc), .int (nI ds), .int (nI ba), .int (nI dy)])), (b0, .inr (4, [.ref b1, .int (nI 0)]))]) := by
  refine cmi_of RX8 rfl (by decide) (Nat.le_of_ble_eq_true rfl) ?_
  intro p e s m below meth c A C hAe hA hini
  refine g_lv (lv' := [(0, .ref x0)]) [0] rfl ?_
  refine g_aload_n (pc' := 1) C 0 dX8_clear_0 rfl rfl rfl ?_
  refine g_get (pc' := 4) C fl_RX8_19_7 0 rfl rfl dX8_clear_1 rfl ?_
  refine g_callMi (pc' := 7) (wr := [(x0, .inr (7, [.ref a0, .ref b0, .ref q0, .ref c0, .ref k0, .ref m1, .ref m2, .int (nI mc), .int (nI ds), .int (nI ba), .int (nI dy)]))]) C hA lk_RX8_141 (kX5_empty l κ b0 b1 len) 1 rfl rfl [1] [0] rfl rfl ⟨rfl, rfl, by decide⟩ rfl (Nat.le_of_ble_eq_true rfl) ⟨Nat.le_of_ble_eq_true rfl, Nat.le_of_ble_eq_true rfl⟩ ⟨Nat.le_of_ble_eq_true rfl, Nat.le_of_ble_eq_true rfl⟩ rfl dX8_clear_4 rfl (fun r_4_1 w_4_1 h_4_1 => ?_)
  obtain ⟨rfl, rfl⟩ : r_4_1 = nI len ∧ w_4_1 = [(b0, .inr (4, [.ref b1, .int (nI 0)]))] := h_4_1
  show G p l e (rmv 1 0 0) s m ([.ref x0] : List Value).toArray below meth c κ 1 (JM A s) [(x0, .inr (7, [.ref a0, .ref b0, .ref q0, .ref c0, .ref k0, .ref m1, .ref m2, .int (nI mc), .int (nI ds), .int (nI ba), .int (nI dy)])), (b0, .inr (4, [.ref b1, .int (nI 0)]))] 0 0 (MQ below (QMi κ [(x0, .inr (7, [.ref a0, .ref b0, .ref q0, .ref c0, .ref k0, .ref m1, .ref m2, .int (nI mc), .int (nI ds), .int (nI ba), .int (nI dy)])), (b0, .inr (4, [.ref b1, .int (nI len)]))] s.heap.size (fun (vr_ : Int32) (vw_ : va_W) => vr_ = nI len ∧ vw_ = [(x0, .inr (7, [.ref a0, .ref b0, .ref q0, .ref c0, .ref k0, .ref m1, .ref m2, .int (nI mc), .int (nI ds), .int (nI ba), .int (nI dy)])), (b0, .inr (4, [.ref b1, .int (nI 0)]))])) ([.ref x0] : List Value).toArray s 0 0 A) 7 [(0, .ref x0)] [.int (nI len)]
  exact g_retMi C hAe rfl rfl (Nat.le_of_ble_eq_true rfl) (Nat.le_of_ble_eq_true rfl) (⟨rfl, rfl⟩) dX8_clear_7

set_option maxHeartbeats 4000000 in
set_option maxRecDepth 100000 in
theorem kX8_setBare (l : Launch) (hst : l.stackTraces = false) (κ : KK) (x0 : Nat) (a0 : Nat) (b0 : Nat) (q0 : Nat) (c0 : Nat) (k0 : Nat) (m1 : Nat) (m2 : Nat) (mc : Nat) (ds : Nat) (ba : Nat) (dy : Nat) (p0 : Int32) : CYi l yX8_setBare cX8_setBare 3 (some .int) 0 1 6 κ [.ref x0, .int p0] [(x0, .inr (7, [.ref a0, .ref b0, .ref q0, .ref c0, .ref k0, .ref m1, .ref m2, .int (nI mc), .int (nI ds), .int (nI ba), .int (nI dy)]))] (fun (E : String) => (E = E_IAE ∧ c_setBare p0 = 1)) (fun (vr_ : Int32) (vw_ : va_W) => (c_setBare p0 = 0) ∧ vr_ = nI ba ∧ vw_ = [(x0, .inr (7, [.ref a0, .ref b0, .ref q0, .ref c0, .ref k0, .ref m1, .ref m2, .int (nI mc), .int (nI ds), .int (nI (n9 p0)), .int (nI dy)]))]) := by
  refine cyi_of hst RX8 rfl (by decide) (Nat.le_of_ble_eq_true rfl) ?_
  intro p e s m below meth c A C Y hAe hA
  refine g_lv (lv' := [(0, .ref x0), (1, .int p0)]) [0, 1] rfl ?_
  refine g_iload_n (pc' := 1) C 1 dX8_setBare_0 rfl rfl rfl ?_
  refine g_iconst (pc' := 2) (v := nI 1) C dX8_setBare_1 (by decide) rfl ?_
  refine g_icmp_lt (pc' := 5) (tgt := 11) C dX8_setBare_2 (by decide) rfl (fun c_2_1 => ?_) (fun c_2_1 => ?_)
  · rw [z_lt (by decide)] at c_2_1
    exact g_throw C Y th_IAE st_145 hAe ⟨rfl, by rw [c_setBare, if_neg (fun q => by have q1 := inZ_s q; omega)]⟩ (Nat.le_of_ble_eq_true rfl) ⟨(Nat.le_of_ble_eq_true rfl), (Nat.le_of_ble_eq_true rfl)⟩ (Nat.le_of_ble_eq_true rfl) (Nat.le_of_ble_eq_true rfl) (Nat.le_of_ble_eq_true rfl) (Nat.le_of_ble_eq_true rfl) [0] rfl dX8_setBare_11 dX8_setBare_14 dX8_setBare_15 dX8_setBare_17 dX8_setBare_20
  · rw [z_lt (by decide)] at c_2_1
    refine g_iload_n (pc' := 6) C 1 dX8_setBare_5 rfl rfl rfl ?_
    refine g_bipush (pc' := 8) (v := nI 50) C dX8_setBare_6 (by decide) rfl ?_
    refine g_icmp_le (pc' := 11) (tgt := 21) C dX8_setBare_8 (by decide) rfl (fun c_8_2 => ?_) (fun c_8_2 => ?_)
    · rw [z_le (by decide)] at c_8_2
      have z0 : inZ 1 50 p0 = true := inZ_t (by omega) (by omega)
      obtain ⟨w9, hw9l, hw9, rfl⟩ := inZ_w z0 (by decide)
      refine g_aload_n (pc' := 22) C 0 dX8_setBare_21 rfl rfl rfl ?_
      refine g_get (pc' := 25) C fl_RX8_54_7 0 rfl rfl dX8_setBare_22 rfl ?_
      refine g_istore_n (pc' := 26) (lv' := [(2, .int (nI ba)), (0, .ref x0), (1, .int (nI w9))]) C dX8_setBare_25 rfl (by decide) rfl rfl ?_
      refine g_aload_n (pc' := 27) C 1 dX8_setBare_26 rfl rfl rfl ?_
      refine g_iload_n (pc' := 28) C 2 dX8_setBare_27 rfl rfl rfl ?_
      refine g_put (pc' := 31) (ws' := [(x0, .inr (7, [.ref a0, .ref b0, .ref q0, .ref c0, .ref k0, .ref m1, .ref m2, .int (nI mc), .int (nI ds), .int (nI w9), .int (nI dy)]))]) C fp_RX8_54_7 0 rfl rfl rfl (Nat.le_of_ble_eq_true rfl) rfl dX8_setBare_28 rfl ?_
      refine g_iload_n (pc' := 32) C 0 dX8_setBare_31 rfl rfl rfl ?_
      refine g_x ?_
      exact g_retMi C hAe rfl rfl (Nat.le_of_ble_eq_true rfl) (Nat.le_of_ble_eq_true rfl) (⟨by simp [c_setBare, z0], rfl, by simp only [n9_nI (show w9 < 2147483648 by omega)]⟩) dX8_setBare_32
    · rw [z_le (by decide)] at c_8_2
      exact g_throw C Y th_IAE st_145 hAe ⟨rfl, by rw [c_setBare, if_neg (fun q => by have q1 := inZ_s q; omega)]⟩ (Nat.le_of_ble_eq_true rfl) ⟨(Nat.le_of_ble_eq_true rfl), (Nat.le_of_ble_eq_true rfl)⟩ (Nat.le_of_ble_eq_true rfl) (Nat.le_of_ble_eq_true rfl) (Nat.le_of_ble_eq_true rfl) (Nat.le_of_ble_eq_true rfl) [0] rfl dX8_setBare_11 dX8_setBare_14 dX8_setBare_15 dX8_setBare_17 dX8_setBare_20

set_option maxHeartbeats 4000000 in
set_option maxRecDepth 100000 in
theorem kX8_pass (l : Launch) (hst : l.stackTraces = false) (κ : KK) (x0 : Nat) (a0 : Nat) (b0 : Nat) (q0 : Nat) (c0 : Nat) (k0 : Nat) (m1 : Nat) (m2 : Nat) (mc : Nat) (ds : Nat) (ba : Nat) (dy : Nat) (p0 : Int32) : CYi l yX8_pass cX8_pass 2 (some .int) 0 1 6 κ [.ref x0, .int p0] [(x0, .inr (7, [.ref a0, .ref b0, .ref q0, .ref c0, .ref k0, .ref m1, .ref m2, .int (nI mc), .int (nI ds), .int (nI ba), .int (nI dy)]))] (fun (E : String) => (E = E_IAE ∧ c_pass p0 = 1)) (fun (vr_ : Int32) (vw_ : va_W) => (c_pass p0 = 0) ∧ vr_ = nI (dy + n9 p0) ∧ vw_ = [(x0, .inr (7, [.ref a0, .ref b0, .ref q0, .ref c0, .ref k0, .ref m1, .ref m2, .int (nI mc), .int (nI ds), .int (nI ba), .int (nI (dy + n9 p0))]))]) := by
  refine cyi_of hst RX8 rfl (by decide) (Nat.le_of_ble_eq_true rfl) ?_
  intro p e s m below meth c A C Y hAe hA
  refine g_lv (lv' := [(0, .ref x0), (1, .int p0)]) [0, 1] rfl ?_
  refine g_iload_n (pc' := 1) C 1 dX8_pass_0 rfl rfl rfl ?_
  refine g_iconst (pc' := 2) (v := nI 1) C dX8_pass_1 (by decide) rfl ?_
  refine g_icmp_lt (pc' := 5) (tgt := 11) C dX8_pass_2 (by decide) rfl (fun c_2_1 => ?_) (fun c_2_1 => ?_)
  · rw [z_lt (by decide)] at c_2_1
    exact g_throw C Y th_IAE st_216 hAe ⟨rfl, by rw [c_pass, if_neg (fun q => by have q1 := inZ_s q; omega)]⟩ (Nat.le_of_ble_eq_true rfl) ⟨(Nat.le_of_ble_eq_true rfl), (Nat.le_of_ble_eq_true rfl)⟩ (Nat.le_of_ble_eq_true rfl) (Nat.le_of_ble_eq_true rfl) (Nat.le_of_ble_eq_true rfl) (Nat.le_of_ble_eq_true rfl) [0] rfl dX8_pass_11 dX8_pass_14 dX8_pass_15 dX8_pass_17 dX8_pass_20
  · rw [z_lt (by decide)] at c_2_1
    refine g_iload_n (pc' := 6) C 1 dX8_pass_5 rfl rfl rfl ?_
    refine g_bipush (pc' := 8) (v := nI 100) C dX8_pass_6 (by decide) rfl ?_
    refine g_icmp_le (pc' := 11) (tgt := 21) C dX8_pass_8 (by decide) rfl (fun c_8_2 => ?_) (fun c_8_2 => ?_)
    · rw [z_le (by decide)] at c_8_2
      have z0 : inZ 1 100 p0 = true := inZ_t (by omega) (by omega)
      obtain ⟨w9, hw9l, hw9, rfl⟩ := inZ_w z0 (by decide)
      refine g_aload_n (pc' := 22) C 0 dX8_pass_21 rfl rfl rfl ?_
      refine g_dup (pc' := 23) C dX8_pass_22 rfl rfl ?_
      refine g_get (pc' := 26) C fl_RX8_191_7 0 rfl rfl dX8_pass_23 rfl ?_
      refine g_iload_n (pc' := 27) C 1 dX8_pass_26 rfl rfl rfl ?_
      refine g_iadd (pc' := 28) (v := nI (dy + w9)) C dX8_pass_27 (nI_add _ _) rfl ?_
      refine g_put (pc' := 31) (ws' := [(x0, .inr (7, [.ref a0, .ref b0, .ref q0, .ref c0, .ref k0, .ref m1, .ref m2, .int (nI mc), .int (nI ds), .int (nI ba), .int (nI (dy + w9))]))]) C fp_RX8_191_7 0 rfl rfl rfl (Nat.le_of_ble_eq_true rfl) rfl dX8_pass_28 rfl ?_
      refine g_aload_n (pc' := 32) C 0 dX8_pass_31 rfl rfl rfl ?_
      refine g_get (pc' := 35) C fl_RX8_191_7 0 rfl rfl dX8_pass_32 rfl ?_
      refine g_x ?_
      exact g_retMi C hAe rfl rfl (Nat.le_of_ble_eq_true rfl) (Nat.le_of_ble_eq_true rfl) (⟨by simp [c_pass, z0], by simp only [n9_nI (show w9 < 2147483648 by omega)], by simp only [n9_nI (show w9 < 2147483648 by omega)]⟩) dX8_pass_35
    · rw [z_le (by decide)] at c_8_2
      exact g_throw C Y th_IAE st_216 hAe ⟨rfl, by rw [c_pass, if_neg (fun q => by have q1 := inZ_s q; omega)]⟩ (Nat.le_of_ble_eq_true rfl) ⟨(Nat.le_of_ble_eq_true rfl), (Nat.le_of_ble_eq_true rfl)⟩ (Nat.le_of_ble_eq_true rfl) (Nat.le_of_ble_eq_true rfl) (Nat.le_of_ble_eq_true rfl) (Nat.le_of_ble_eq_true rfl) [0] rfl dX8_pass_11 dX8_pass_14 dX8_pass_15 dX8_pass_17 dX8_pass_20
