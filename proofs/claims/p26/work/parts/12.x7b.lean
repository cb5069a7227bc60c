set_option maxHeartbeats 4000000 in
set_option maxRecDepth 100000 in
theorem kX7_leastOfAll (l : Launch) (κ : KK) (q0 : Nat) (q1 : Nat) (q2 : Nat) (q3 : Nat) (cnt : Nat) (fn : Nat → Nat) (fp : Nat → Nat) (fr : Nat → Nat) (L : SL) (bare : Nat) (hL : stOK L cnt fn fp fr) (hF : FW cnt fp fr) (hba : bare ≤ 50) : ∀ (r9 : Nat) (fm9 : Nat) (tk : Nat) (sp : Int) (dp : Nat), (dp + r9 = 6) → (fm9 ≤ cnt) → (tk < 64) → (dp ≤ bc6 tk) → (-(300 * (dp : Int)) ≤ sp ∧ sp ≤ 300 + 20 * (dp : Int)) → CP l yX7_leastOfAll cX7_leastOfAll 11 (some .int) (r9 + 3) κ [.ref q0, .int (nI fm9), .int (nI tk), .int (zI sp), .int (nI bare), .int (nI dp)] [(q0, .inr (6, [.ref q1, .ref q2, .ref q3, .int (nI cnt)])), (q2, .inl (κ.2 0, 120, .inl (nA fp))), (q3, .inl (κ.2 0, 120, .inl (nA fr)))] (fun vr_ => vr_ = zI (sp + dm bare (L.drop fm9) tk)) := by
  have hc : cnt ≤ 120 := hF.1
  have hLl : L.length = cnt := hL.1
  intro r9
  induction r9 with
  | zero =>
    intro fm9 tk sp dp hd hfm htk hpc hsp
    refine cp_of RX7 rfl (by decide) (Nat.le_of_ble_eq_true rfl) ?_
    intro p e s m below meth c C
    refine g_lv (lv' := [(0, .ref q0), (1, .int (nI fm9)), (2, .int (nI tk)), (3, .int (zI sp)), (4, .int (nI bare)), (5, .int (nI dp))]) [0, 1, 2, 3, 4, 5] rfl ?_
    refine g_iload_n (pc' := 1) C 3 dX7_leastOfAll_0 rfl rfl rfl ?_
    refine g_istore (pc' := 3) (lv' := [(6, .int (zI sp)), (0, .ref q0), (1, .int (nI fm9)), (2, .int (nI tk)), (3, .int (zI sp)), (4, .int (nI bare)), (5, .int (nI dp))]) C dX7_leastOfAll_1 (by decide) rfl rfl ?_
    refine g_iload (pc' := 5) C 6 dX7_leastOfAll_3 rfl rfl ?_
    refine g_bipush (pc' := 7) (v := nI 6) C dX7_leastOfAll_5 (by decide) rfl ?_
    refine g_icmp_ltN (pc' := 10) (tgt := 13) C (by omega) (by first | assumption | omega) dX7_leastOfAll_7 (by decide) rfl (fun c_7_1 => absurd c_7_1 (by omega)) (fun c_7_1 => ?_)
    refine g_iload (pc' := 12) C 0 dX7_leastOfAll_10 rfl rfl ?_
    exact g_retP C rfl rfl (show zI sp = zI (sp + dm bare (L.drop fm9) tk) by have e : tk = 63 := bc6_fullA tk htk (by omega); rw [e, dm_full _ (fun x hx => stOK_all hL hF x (List.mem_of_mem_drop hx)), Int.add_zero]) dX7_leastOfAll_12
  | succ r9 ih =>
    intro fm9 tk sp dp hd hfm htk hpc hsp
    refine cp_of RX7 rfl (by decide) (Nat.le_of_ble_eq_true rfl) ?_
    intro p e s m below meth c C
    refine g_lv (lv' := [(0, .ref q0), (1, .int (nI fm9)), (2, .int (nI tk)), (3, .int (zI sp)), (4, .int (nI bare)), (5, .int (nI dp))]) [0, 1, 2, 3, 4, 5] rfl ?_
    refine g_iload_n (pc' := 1) C 3 dX7_leastOfAll_0 rfl rfl rfl ?_
    refine g_istore (pc' := 3) (lv' := [(6, .int (zI sp)), (0, .ref q0), (1, .int (nI fm9)), (2, .int (nI tk)), (3, .int (zI sp)), (4, .int (nI bare)), (5, .int (nI dp))]) C dX7_leastOfAll_1 (by decide) rfl rfl ?_
    refine g_iload (pc' := 5) C 6 dX7_leastOfAll_3 rfl rfl ?_
    refine g_bipush (pc' := 7) (v := nI 6) C dX7_leastOfAll_5 (by decide) rfl ?_
    refine g_icmp_ltN (pc' := 10) (tgt := 13) C (by first | assumption | omega) (by first | assumption | omega) dX7_leastOfAll_7 (by decide) rfl (fun c_7_1 => ?_) (fun c_7_1 => absurd c_7_1 (by omega))
    refine g_iload_n (pc' := 14) C 2 dX7_leastOfAll_13 rfl rfl rfl ?_
    refine g_istore (pc' := 16) (lv' := [(7, .int (nI fm9)), (6, .int (zI sp)), (0, .ref q0), (1, .int (nI fm9)), (2, .int (nI tk)), (3, .int (zI sp)), (4, .int (nI bare)), (5, .int (nI dp))]) C dX7_leastOfAll_14 (by decide) rfl rfl ?_
    have lp_a : ∀ (fu_a : Nat) (i : Nat) (le : Int), (i ≤ cnt) → (le ≤ sp) → (-40000 ≤ le) → (min le (sp + dm bare (L.drop i) tk) = sp + dm bare (L.drop fm9) tk) → (cnt - i) < fu_a → G p l e (rmv (r9 + 1 + 3) 0 0) s m ([.ref q0, .int (nI fm9), .int (nI tk), .int (zI sp), .int (nI bare), .int (nI dp)] : List Value).toArray below meth c κ 11 (JP s) [(q0, .inr (6, [.ref q1, .ref q2, .ref q3, .int (nI cnt)])), (q2, .inl (κ.2 0, 120, .inl (nA fp))), (q3, .inl (κ.2 0, 120, .inl (nA fr)))] 0 0 (MQ below (vp_Si (fun vr_ => vr_ = zI (sp + dm bare (L.drop fm9) tk))) ([.ref q0, .int (nI fm9), .int (nI tk), .int (zI sp), .int (nI bare), .int (nI dp)] : List Value).toArray s 0 0 (fun _ => False)) 16 [(7, .int (nI i)), (6, .int (zI le)), (0, .ref q0), (1, .int (nI fm9)), (2, .int (nI tk)), (3, .int (zI sp)), (4, .int (nI bare)), (5, .int (nI dp))] [] := by
      intro fu_a
      induction fu_a with
      | zero => intro i le hi hle hlo hinv hmu; exact absurd hmu (Nat.not_lt_zero _)
      | succ fu_a ih_a =>
        intro i le hi hle hlo hinv hmu_a
        refine g_iload (pc' := 18) C 0 dX7_leastOfAll_16 rfl rfl ?_
        refine g_aload_n (pc' := 19) C 2 dX7_leastOfAll_18 rfl rfl rfl ?_
        refine g_get (pc' := 22) C fl_RX7_21_6 0 rfl rfl dX7_leastOfAll_19 rfl ?_
        refine g_icmp_geN (pc' := 25) (tgt := 96) C (by first | assumption | omega) (by first | assumption | omega) dX7_leastOfAll_22 (by decide) rfl (fun c_22_2 => ?_) (fun c_22_2 => ?_)
        · refine g_iload (pc' := 98) C 1 dX7_leastOfAll_96 rfl rfl ?_
          exact g_retP C rfl rfl (show zI le = zI (sp + dm bare (L.drop fm9) tk) by have e : i = cnt := (by omega); subst e; have h9 : L.drop i = [] := List.drop_eq_nil_of_le (by omega); rw [h9] at hinv; simp only [dm] at hinv; congr 1; omega) dX7_leastOfAll_98
        · refine g_aload_n (pc' := 26) C 2 dX7_leastOfAll_25 rfl rfl rfl ?_
          refine g_iload (pc' := 28) C 0 dX7_leastOfAll_26 rfl rfl ?_
          refine g_callP (pc' := 31) C lk_RX7_29 (kX7_placesOf l κ q0 q1 q2 q3 cnt fp i (by first | assumption | omega) (by first | assumption | omega)) 0 rfl rfl [0, 1] rfl rfl (Nat.le_of_ble_eq_true rfl) (by constructor <;> (simp only [rmv]; omega)) ⟨Nat.le_of_ble_eq_true rfl, Nat.le_of_ble_eq_true rfl⟩ rfl dX7_leastOfAll_28 rfl (fun r_28_3 h_28_3 => ?_)
          obtain rfl : r_28_3 = nI (fp i) := h_28_3
          refine g_istore (pc' := 33) (lv' := [(8, .int (nI (fp i))), (7, .int (nI i)), (6, .int (zI le)), (0, .ref q0), (1, .int (nI fm9)), (2, .int (nI tk)), (3, .int (zI sp)), (4, .int (nI bare)), (5, .int (nI dp))]) C dX7_leastOfAll_31 (by decide) rfl rfl ?_
          refine g_iload (pc' := 35) C 0 dX7_leastOfAll_33 rfl rfl ?_
          refine g_iload_n (pc' := 36) C 5 dX7_leastOfAll_35 rfl rfl rfl ?_
          refine g_iand (pc' := 37) (v := nI ((fp i) &&& tk)) C dX7_leastOfAll_36 (nI_and _ _) rfl ?_
          refine g_if_neN (pc' := 40) (tgt := 90) C (by have h := (hF.2 i (by omega)).2.1; have h2 : fp i &&& tk ≤ fp i := Nat.and_le_left; omega) dX7_leastOfAll_37 (by decide) rfl (fun c_37_4 => ?_) (fun c_37_4 => ?_)
          · refine g_iinc (pc' := 93) (v := nI (i + 1)) (lv' := [(7, .int (nI (i + 1))), (8, .int (nI (fp i))), (6, .int (zI le)), (0, .ref q0), (1, .int (nI fm9)), (2, .int (nI tk)), (3, .int (zI sp)), (4, .int (nI bare)), (5, .int (nI dp))]) C 1 dX7_leastOfAll_90 rfl (iincN1 _) (by decide) rfl rfl ?_
            refine g_goto (tgt := 16) C dX7_leastOfAll_93 (by decide) ?_
            refine g_lv (lv' := [(7, .int (nI (i + 1))), (6, .int (zI le)), (0, .ref q0), (1, .int (nI fm9)), (2, .int (nI tk)), (3, .int (zI sp)), (4, .int (nI bare)), (5, .int (nI dp))]) [0, 2, 3, 4, 5, 6, 7, 8] rfl ?_
            exact ih_a (i + 1) le (by first | assumption | omega) (by omega) (by omega) (by rw [stOK_at hL (by omega)] at hinv; simp only [dm, if_neg c_37_4] at hinv; exact hinv) (by omega)
          · refine g_aload_n (pc' := 41) C 3 dX7_leastOfAll_40 rfl rfl rfl ?_
            refine g_iload (pc' := 43) C 1 dX7_leastOfAll_41 rfl rfl ?_
            refine g_callP (pc' := 46) C lk_RX7_38 (kX7_priceOf l κ q0 q1 q2 q3 cnt fr i (by first | assumption | omega) (by first | assumption | omega)) 0 rfl rfl [0, 2] rfl rfl (Nat.le_of_ble_eq_true rfl) (by constructor <;> (simp only [rmv]; omega)) ⟨Nat.le_of_ble_eq_true rfl, Nat.le_of_ble_eq_true rfl⟩ rfl dX7_leastOfAll_43 rfl (fun r_43_5 h_43_5 => ?_)
            obtain rfl : r_43_5 = nI (fr i) := h_43_5
            refine g_iload (pc' := 48) C 7 dX7_leastOfAll_46 rfl rfl ?_
            refine g_iload (pc' := 50) C 0 dX7_leastOfAll_48 rfl rfl ?_
            refine g_callPS (pc' := 53) C lk_RX7_41 (kJ6_bitCount_0f7a4 l κ (fp i) (hF.2 i (by omega)).2.1) [] rfl rfl (Nat.le_of_ble_eq_true rfl) (by constructor <;> (simp only [rmv]; omega)) ⟨Nat.le_of_ble_eq_true rfl, Nat.le_of_ble_eq_true rfl⟩ rfl dX7_leastOfAll_50 rfl (fun r_50_6 h_50_6 => ?_)
            obtain rfl : r_50_6 = nI (bc6 (fp i)) := h_50_6
            refine g_imul (pc' := 54) (v := nI (bare * (bc6 (fp i)))) C dX7_leastOfAll_53 (pk_mul _ _) rfl ?_
            refine g_isub (pc' := 55) (v := zI (((fr i : Nat) : Int) - ((bare * bc6 (fp i) : Nat) : Int))) C dX7_leastOfAll_54 (nZ_sub _ _) rfl ?_
            refine g_istore (pc' := 57) (lv' := [(9, .int (zI (((fr i : Nat) : Int) - ((bare * bc6 (fp i) : Nat) : Int)))), (8, .int (nI (fp i))), (7, .int (nI i)), (6, .int (zI le)), (0, .ref q0), (1, .int (nI fm9)), (2, .int (nI tk)), (3, .int (zI sp)), (4, .int (nI bare)), (5, .int (nI dp))]) C dX7_leastOfAll_55 (by decide) rfl rfl ?_
            refine g_aload_n (pc' := 58) C 4 dX7_leastOfAll_57 rfl rfl rfl ?_
            refine g_iload (pc' := 60) C 2 dX7_leastOfAll_58 rfl rfl ?_
            refine g_iconst (pc' := 61) (v := nI 1) C dX7_leastOfAll_60 (by decide) rfl ?_
            refine g_iadd (pc' := 62) (v := nI (i + 1)) C dX7_leastOfAll_61 (nI_add _ _) rfl ?_
            refine g_iload_n (pc' := 63) C 6 dX7_leastOfAll_62 rfl rfl rfl ?_
            refine g_iload (pc' := 65) C 1 dX7_leastOfAll_63 rfl rfl ?_
            refine g_ior (pc' := 66) (v := nI (tk ||| (fp i))) C dX7_leastOfAll_65 (nI_or _ _) rfl ?_
            refine g_iload_n (pc' := 67) C 7 dX7_leastOfAll_66 rfl rfl rfl ?_
            refine g_iload (pc' := 69) C 0 dX7_leastOfAll_67 rfl rfl ?_
            refine g_iadd (pc' := 70) (v := zI (sp + (((fr i : Nat) : Int) - ((bare * bc6 (fp i) : Nat) : Int)))) C dX7_leastOfAll_69 (zI_add _ _) rfl ?_
            refine g_iload (pc' := 72) C 8 dX7_leastOfAll_70 rfl rfl ?_
            refine g_iload (pc' := 74) C 9 dX7_leastOfAll_72 rfl rfl ?_
            refine g_iconst (pc' := 75) (v := nI 1) C dX7_leastOfAll_74 (by decide) rfl ?_
            refine g_iadd (pc' := 76) (v := nI (dp + 1)) C dX7_leastOfAll_75 (nI_add _ _) rfl ?_
            refine g_callPS (pc' := 79) C lk_RX7_44 (ih (i + 1) (tk ||| (fp i)) (sp + (((fr i : Nat) : Int) - ((bare * bc6 (fp i) : Nat) : Int))) (dp + 1) (by omega) (by omega) (or64 htk (hF.2 i (by omega)).2.1) (by rw [bc6_orA tk htk (fp i) (hF.2 i (by omega)).2.1 c_37_4]; have h := bc6_posA (fp i) (hF.2 i (by omega)).2.1 (hF.2 i (by omega)).1; omega) (by have h3 := wt_ge hba (fn i, fp i, fr i); have h4 := (hF.2 i (by omega)).2.2; simp only [wt] at h3; constructor <;> omega)) [0, 1, 2] rfl rfl (Nat.le_of_ble_eq_true rfl) (by constructor <;> (simp only [rmv]; omega)) ⟨Nat.le_of_ble_eq_true rfl, Nat.le_of_ble_eq_true rfl⟩ rfl dX7_leastOfAll_76 rfl (fun r_76_7 h_76_7 => ?_)
            obtain rfl : r_76_7 = zI ((sp + (((fr i : Nat) : Int) - ((bare * bc6 (fp i) : Nat) : Int))) + dm bare (L.drop (i + 1)) (tk ||| (fp i))) := h_76_7
            refine g_istore (pc' := 81) (lv' := [(10, .int (zI ((sp + (((fr i : Nat) : Int) - ((bare * bc6 (fp i) : Nat) : Int))) + dm bare (L.drop (i + 1)) (tk ||| (fp i))))), (9, .int (zI (((fr i : Nat) : Int) - ((bare * bc6 (fp i) : Nat) : Int)))), (8, .int (nI (fp i))), (7, .int (nI i)), (6, .int (zI le)), (0, .ref q0), (1, .int (nI fm9)), (2, .int (nI tk)), (3, .int (zI sp)), (4, .int (nI bare)), (5, .int (nI dp))]) C dX7_leastOfAll_79 (by decide) rfl rfl ?_
            refine g_iload (pc' := 83) C 4 dX7_leastOfAll_81 rfl rfl ?_
            refine g_iload (pc' := 85) C 0 dX7_leastOfAll_83 rfl rfl ?_
            refine g_min (pc' := 88) (v := zI (min le ((sp + (((fr i : Nat) : Int) - ((bare * bc6 (fp i) : Nat) : Int))) + dm bare (L.drop (i + 1)) (tk ||| (fp i))))) C mn_RX7_48 wd_mn2 wd_mn3 wd_mn4 (by simp only [rmv]; omega) (by simp only [rmv]; show (0 : Nat) + 13 ≤ _; omega) ⟨Nat.le_of_ble_eq_true rfl, Nat.le_of_ble_eq_true rfl⟩ (min_Z (by constructor <;> omega) (by have h1 := dm_ge hba (L.drop (i + 1)) (tk ||| fp i); have h0 := dm_le bare (L.drop (i + 1)) (tk ||| fp i); have h2 : (L.drop (i + 1)).length ≤ 120 := (by rw [List.length_drop]; omega); have h3 := wt_ge hba (fn i, fp i, fr i); have h4 := (hF.2 i (by omega)).2.2; simp only [wt] at h3; constructor <;> omega)) dX7_leastOfAll_85 rfl ?_
            refine g_istore (pc' := 90) (lv' := [(6, .int (zI (min le ((sp + (((fr i : Nat) : Int) - ((bare * bc6 (fp i) : Nat) : Int))) + dm bare (L.drop (i + 1)) (tk ||| (fp i)))))), (10, .int (zI ((sp + (((fr i : Nat) : Int) - ((bare * bc6 (fp i) : Nat) : Int))) + dm bare (L.drop (i + 1)) (tk ||| (fp i))))), (9, .int (zI (((fr i : Nat) : Int) - ((bare * bc6 (fp i) : Nat) : Int)))), (8, .int (nI (fp i))), (7, .int (nI i)), (0, .ref q0), (1, .int (nI fm9)), (2, .int (nI tk)), (3, .int (zI sp)), (4, .int (nI bare)), (5, .int (nI dp))]) C dX7_leastOfAll_88 (by decide) rfl rfl ?_
            refine g_iinc (pc' := 93) (v := nI (i + 1)) (lv' := [(7, .int (nI (i + 1))), (6, .int (zI (min le ((sp + (((fr i : Nat) : Int) - ((bare * bc6 (fp i) : Nat) : Int))) + dm bare (L.drop (i + 1)) (tk ||| (fp i)))))), (10, .int (zI ((sp + (((fr i : Nat) : Int) - ((bare * bc6 (fp i) : Nat) : Int))) + dm bare (L.drop (i + 1)) (tk ||| (fp i))))), (9, .int (zI (((fr i : Nat) : Int) - ((bare * bc6 (fp i) : Nat) : Int)))), (8, .int (nI (fp i))), (0, .ref q0), (1, .int (nI fm9)), (2, .int (nI tk)), (3, .int (zI sp)), (4, .int (nI bare)), (5, .int (nI dp))]) C 4 dX7_leastOfAll_90 rfl (iincN1 _) (by decide) rfl rfl ?_
            refine g_goto (tgt := 16) C dX7_leastOfAll_93 (by decide) ?_
            refine g_lv (lv' := [(7, .int (nI (i + 1))), (6, .int (zI (min le ((sp + (((fr i : Nat) : Int) - ((bare * bc6 (fp i) : Nat) : Int))) + dm bare (L.drop (i + 1)) (tk ||| (fp i)))))), (0, .ref q0), (1, .int (nI fm9)), (2, .int (nI tk)), (3, .int (zI sp)), (4, .int (nI bare)), (5, .int (nI dp))]) [0, 1, 5, 6, 7, 8, 9, 10] rfl ?_
            exact ih_a (i + 1) (min le ((sp + (((fr i : Nat) : Int) - ((bare * bc6 (fp i) : Nat) : Int))) + dm bare (L.drop (i + 1)) (tk ||| (fp i)))) (by first | assumption | omega) (by omega) (by have h1 := dm_ge hba (L.drop (i + 1)) (tk ||| fp i); have h2 : (L.drop (i + 1)).length ≤ 120 := (by rw [List.length_drop]; omega); have h3 := wt_ge hba (fn i, fp i, fr i); simp only [wt] at h3; omega) (by rw [stOK_at hL (by omega)] at hinv; simp only [dm, if_pos c_37_4, wt] at hinv; omega) (by omega)
    exact lp_a (cnt + 1) fm9 sp hfm (Int.le_refl _) (by omega) (by have h := dm_le bare (L.drop fm9) tk; omega) (by omega)
