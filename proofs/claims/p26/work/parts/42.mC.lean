/-! ===== the law's check of the cover ===== -/
set_option maxHeartbeats 4000000 in
set_option maxRecDepth 100000 in
theorem kL_isCover (l : Launch) (hst : l.stackTraces = false) (κ : KK) (x0 t0 c0 : Nat) {n : Nat} {fk : Nat → Nat} {fs : Nat → Nat} {len : Nat} {fw : Nat → Nat} {ds : Nat} {dr : Nat → Option Nat} {mc : Nat} {th : Nat → Bool} {rc : Nat → Option Nat} {ck : Nat → Nat} {pm : Nat → Nat} {ep : Nat → Nat → Option Nat} {ba : Nat} {dy : Nat} {iv : Nat → Nat → Nat} {dv : Nat → Nat → Nat} {wx0 : va_W} (HRW : RW n fk fs) (HSW : SW len fw) (HDW : DW ds dr) (HTW : TW mc th rc ck pm ep) (HB : ba ≤ 50) (HK : KW iv dv) (HI : IW iv) (hdy : dy ≤ 100000) (HX0 : LX κ x0 n fk fs len fw ds dr mc th rc ck pm ep ba dy iv dv wx0) : CYi l yL_isCover cL_isCover 13 (some .boolean) 11 120 720 κ [.ref x0, .ref t0, .ref c0, .int (nI mc), .int (nI len), .int (nI ba)] ([(t0, .inl (κ.2 0, 8, .inl (nA (bN th)))), (c0, .inl (κ.2 0, 8, .inl (nA ck)))] ++ wx0) (fun _ => False) (fun (r : Int32) (w1 : va_W) => r = nI 1 ∧ ∃ w2, w1 = [(t0, .inl (κ.2 0, 8, .inl (nA (bN th)))), (c0, .inl (κ.2 0, 8, .inl (nA ck)))] ++ w2 ∧ LX κ x0 n fk fs len fw ds dr mc th rc ck pm ep ba dy iv dv w2) := by
  have hl6 := HSW.1
  have hm8 := HTW.1
  have hbl : ba * len ≤ 300 := Nat.mul_le_mul HB HSW.1
  refine cyi_of hst RL rfl (by decide) (Nat.le_of_ble_eq_true rfl) ?_
  intro p e s m below meth c A C Y hAe hA
  refine g_lv (lv' := [(0, .ref x0), (1, .ref t0), (2, .ref c0), (3, .int (nI mc)), (4, .int (nI len)), (5, .int (nI ba))]) [0, 1, 2, 3, 4, 5] rfl ?_
  refine g_iconst (pc' := 1) (v := nI 0) C dL_isCover_0 (by decide) rfl ?_
  refine g_istore (pc' := 3) (lv' := [(6, .int (nI 0)), (0, .ref x0), (1, .ref t0), (2, .ref c0), (3, .int (nI mc)), (4, .int (nI len)), (5, .int (nI ba))]) C dL_isCover_1 (by decide) rfl rfl ?_
  refine g_iconst (pc' := 4) (v := nI 1) C dL_isCover_3 (by decide) rfl ?_
  refine g_istore (pc' := 6) (lv' := [(7, .int (nI 1)), (6, .int (nI 0)), (0, .ref x0), (1, .ref t0), (2, .ref c0), (3, .int (nI mc)), (4, .int (nI len)), (5, .int (nI ba))]) C dL_isCover_4 (by decide) rfl rfl ?_
  refine g_iconst (pc' := 7) (v := nI 0) C dL_isCover_6 (by decide) rfl ?_
  refine g_istore (pc' := 9) (lv' := [(8, .int (nI 0)), (7, .int (nI 1)), (6, .int (nI 0)), (0, .ref x0), (1, .ref t0), (2, .ref c0), (3, .int (nI mc)), (4, .int (nI len)), (5, .int (nI ba))]) C dL_isCover_7 (by decide) rfl rfl ?_
  have lp_a : ∀ (fu_a : Nat) (wl_a : va_W) (p9 : Nat) (sm : Nat), (LX κ x0 n fk fs len fw ds dr mc th rc ck pm ep ba dy iv dv wl_a) → (p9 ≤ len) → (sm = cvS n fk fs len fw mc th rc ck pm ep ba p9) → (len - p9) < fu_a → G p l e (rmv 11 120 720) s m ([.ref x0, .ref t0, .ref c0, .int (nI mc), .int (nI len), .int (nI ba)] : List Value).toArray below meth c κ 13 (JM A s) ([(t0, .inl (κ.2 0, 8, .inl (nA (bN th)))), (c0, .inl (κ.2 0, 8, .inl (nA ck)))] ++ wl_a) (20 * p9) (120 * p9) (vx_MQ below (QMi κ ([(t0, .inl (κ.2 0, 8, .inl (nA (bN th)))), (c0, .inl (κ.2 0, 8, .inl (nA ck)))] ++ wx0) s.heap.size (fun (r : Int32) (w1 : va_W) => r = nI 1 ∧ ∃ w2, w1 = [(t0, .inl (κ.2 0, 8, .inl (nA (bN th)))), (c0, .inl (κ.2 0, 8, .inl (nA ck)))] ++ w2 ∧ LX κ x0 n fk fs len fw ds dr mc th rc ck pm ep ba dy iv dv w2)) (XPw κ ([(t0, .inl (κ.2 0, 8, .inl (nA (bN th)))), (c0, .inl (κ.2 0, 8, .inl (nA ck)))] ++ wx0) s.heap.size (fun _ => False)) ([.ref x0, .ref t0, .ref c0, .int (nI mc), .int (nI len), .int (nI ba)] : List Value).toArray s 120 720 A) 9 [(8, .int (nI p9)), (7, .int (nI 1)), (6, .int (nI sm)), (0, .ref x0), (1, .ref t0), (2, .ref c0), (3, .int (nI mc)), (4, .int (nI len)), (5, .int (nI ba))] [] := by
    intro fu_a
    induction fu_a with
    | zero => intro wl_a p9 sm HL_a hp hsm hmu; exact absurd hmu (Nat.not_lt_zero _)
    | succ fu_a ih_a =>
      intro wl_a p9 sm HL_a hp hsm hmu_a
      have hs3 : sm ≤ 300 := by rw [hsm]; exact cv_le HSW HB hp
      refine g_iload (pc' := 11) C 0 dL_isCover_9 rfl rfl ?_
      refine g_iload (pc' := 13) C 7 dL_isCover_11 rfl rfl ?_
      refine g_icmp_geN (pc' := 16) (tgt := 208) C (by first | assumption | omega) (by first | assumption | omega) dL_isCover_13 (by decide) rfl (fun c_13_1 => ?_) (fun c_13_1 => ?_)
      · refine g_iload (pc' := 210) C 1 dL_isCover_208 rfl rfl ?_
        refine g_if_eqN (pc' := 213) (tgt := 245) C (by first | assumption | omega) dL_isCover_210 (by decide) rfl (fun z => absurd z (by decide)) (fun _ => ?_)
        refine g_aload_n (pc' := 214) C 3 dL_isCover_213 rfl rfl rfl ?_
        obtain ⟨qx_3, fx_3, hqx_3⟩ := LX.recv HL_a
        refine g_fMi (pc' := 217) (wr := [(t0, .inl (κ.2 0, 8, .inl (nA (bN th)))), (c0, .inl (κ.2 0, 8, .inl (nA ck)))]) (wc := wl_a) C hA lk_RL_17 (hp_cost l κ x0 HRW HSW HDW HTW HB HK HI (by omega) HL_a) (List.Perm.refl _) qx_3 hqx_3 rfl rfl (Nat.le_of_ble_eq_true rfl) ⟨Nat.le_of_ble_eq_true rfl, Nat.le_of_ble_eq_true rfl⟩ (by simp only [rmv]; constructor <;> omega) rfl dL_isCover_214 rfl (fun r_214_3 w_214_3 h_214_3 => ?_)
        obtain ⟨HX_214_3, hr_214_3⟩ := h_214_3
        have hfin : sm = cvO n fk fs len fw mc th rc ck pm ep ba := by rw [hsm, show p9 = len by omega]; exact cv_len HSW
        have hbar : cvO n fk fs len fw mc th rc ck pm ep ba ≤ ba * len := cv_bare
        have er_214_3 : r_214_3 = nI sm := by rw [hr_214_3, hfin]
        subst er_214_3
        refine g_iload (pc' := 219) C 2 dL_isCover_217 rfl rfl ?_
        refine g_icmp_neN (pc' := 222) (tgt := 245) C (by first | assumption | omega) (by first | assumption | omega) dL_isCover_219 (by decide) rfl (fun c_219_4 => absurd c_219_4 (by exact fun q => q rfl)) (fun c_219_4 => ?_)
        refine g_aload_n (pc' := 223) C 3 dL_isCover_222 rfl rfl rfl ?_
        obtain ⟨qx_5, fx_5, hqx_5⟩ := LX.recv HX_214_3
        refine g_fMi (pc' := 226) (wr := [(t0, .inl (κ.2 0, 8, .inl (nA (bN th)))), (c0, .inl (κ.2 0, 8, .inl (nA ck)))]) (wc := w_214_3) C hA lk_RL_21 (hp_costByAll l κ x0 HRW HSW HDW HTW HB HK HI (by omega) HX_214_3) (List.Perm.refl _) qx_5 hqx_5 rfl rfl (Nat.le_of_ble_eq_true rfl) ⟨Nat.le_of_ble_eq_true rfl, Nat.le_of_ble_eq_true rfl⟩ (by simp only [rmv]; constructor <;> omega) rfl dL_isCover_223 rfl (fun r_223_5 w_223_5 h_223_5 => ?_)
        obtain ⟨HX_223_5, hr_223_5⟩ := h_223_5
        have er_223_5 : r_223_5 = nI sm := by rw [hr_223_5, hfin]
        subst er_223_5
        refine g_iload (pc' := 228) C 2 dL_isCover_226 rfl rfl ?_
        refine g_icmp_neN (pc' := 231) (tgt := 245) C (by first | assumption | omega) (by first | assumption | omega) dL_isCover_228 (by decide) rfl (fun c_228_6 => absurd c_228_6 (by exact fun q => q rfl)) (fun c_228_6 => ?_)
        refine g_iload (pc' := 233) C 2 dL_isCover_231 rfl rfl ?_
        refine g_iload (pc' := 235) C 8 dL_isCover_233 rfl rfl ?_
        refine g_iload (pc' := 237) C 7 dL_isCover_235 rfl rfl ?_
        refine g_imul (pc' := 238) (v := nI (ba * len)) C dL_isCover_237 (pk_mul _ _) rfl ?_
        refine g_icmp_gtN (pc' := 241) (tgt := 245) C (by first | assumption | omega) (by first | assumption | omega) dL_isCover_238 (by decide) rfl (fun c_238_7 => absurd c_238_7 (by omega)) (fun c_238_7 => ?_)
        refine g_iconst (pc' := 242) (v := nI 1) C dL_isCover_241 (by decide) rfl ?_
        refine g_goto (tgt := 246) C dL_isCover_242 (by decide) ?_
        refine g_x ?_
        exact g_retMi C hAe rfl rfl (by omega) (by omega) ⟨rfl, _, rfl, HX_223_5⟩ dL_isCover_246
      · refine g_iload (pc' := 18) C 1 dL_isCover_16 rfl rfl ?_
        refine g_if_eqN (pc' := 21) (tgt := 208) C (by first | assumption | omega) dL_isCover_18 (by decide) rfl (fun z => absurd z (by decide)) (fun _ => ?_)
        refine g_aload_n (pc' := 22) C 3 dL_isCover_21 rfl rfl rfl ?_
        refine g_iload (pc' := 24) C 0 dL_isCover_22 rfl rfl ?_
        obtain ⟨qx_9, fx_9, hqx_9⟩ := LX.recv HL_a
        refine g_fQ (pc' := 27) (wr := [(t0, .inl (κ.2 0, 8, .inl (nA (bN th)))), (c0, .inl (κ.2 0, 8, .inl (nA ck)))]) (wc := wl_a) C Y.2.2 hA ml_RL_8 lk_RL_8 (hp_glossAt l hst κ x0 p9 HRW HSW HDW HTW HB HK HI (by omega) HL_a (by omega)) (fun _ h => h) (List.Perm.refl _) qx_9 hqx_9 rfl rfl (Nat.le_of_ble_eq_true rfl) ⟨Nat.le_of_ble_eq_true rfl, Nat.le_of_ble_eq_true rfl⟩ (by simp only [rmv]; constructor <;> omega) rfl dL_isCover_24 rfl (fun r_24_9 w_24_9 h_24_9 => ?_)
        obtain ⟨HX_24_9, hr_24_9⟩ := h_24_9
        refine g_istore (pc' := 29) (lv' := [(9, .int r_24_9), (8, .int (nI p9)), (7, .int (nI 1)), (6, .int (nI sm)), (0, .ref x0), (1, .ref t0), (2, .ref c0), (3, .int (nI mc)), (4, .int (nI len)), (5, .int (nI ba))]) C dL_isCover_27 (by decide) rfl rfl ?_
        refine g_aload_n (pc' := 30) C 4 dL_isCover_29 rfl rfl rfl ?_
        refine g_iload (pc' := 32) C 1 dL_isCover_30 rfl rfl ?_
        obtain ⟨qx_10, fx_10, hqx_10⟩ := LX.recv HX_24_9
        refine g_fQ (pc' := 35) (wr := [(t0, .inl (κ.2 0, 8, .inl (nA (bN th)))), (c0, .inl (κ.2 0, 8, .inl (nA ck)))]) (wc := w_24_9) C Y.2.2 hA ml_RL_14 lk_RL_14 (hp_placesAt l hst κ x0 p9 HRW HSW HDW HTW HB HK HI (by omega) HX_24_9 (by omega)) (fun _ h => h) (List.Perm.refl _) qx_10 hqx_10 rfl rfl (Nat.le_of_ble_eq_true rfl) ⟨Nat.le_of_ble_eq_true rfl, Nat.le_of_ble_eq_true rfl⟩ (by simp only [rmv]; constructor <;> omega) rfl dL_isCover_32 rfl (fun r_32_10 w_32_10 h_32_10 => ?_)
        obtain ⟨HX_32_10, hr_32_10⟩ := h_32_10
        cases ho : cvP n fk fs len fw mc th rc ck pm ep ba p9 with
        | none =>
          have er_24_9 : r_24_9 = (-1) := by rw [hr_24_9, ho]; rfl
          subst er_24_9
          have er_32_10 : r_32_10 = nI 0 := by rw [hr_32_10, ho]; rfl
          subst er_32_10
          refine g_istore (pc' := 37) (lv' := [(10, .int (nI 0)), (9, .int (-1)), (8, .int (nI p9)), (7, .int (nI 1)), (6, .int (nI sm)), (0, .ref x0), (1, .ref t0), (2, .ref c0), (3, .int (nI mc)), (4, .int (nI len)), (5, .int (nI ba))]) C dL_isCover_35 (by decide) rfl rfl ?_
          refine g_iload (pc' := 39) C 1 dL_isCover_37 rfl rfl ?_
          refine g_if_ge (pc' := 42) (tgt := 64) C dL_isCover_39 (by decide) rfl (fun c_39_11 => absurd c_39_11 (by decide)) (fun c_39_11 => ?_)
          refine g_iload (pc' := 44) C 4 dL_isCover_42 rfl rfl ?_
          refine g_iload (pc' := 46) C 10 dL_isCover_44 rfl rfl ?_
          refine g_iadd (pc' := 47) (v := nI (sm + ba)) C dL_isCover_46 (nI_add _ _) rfl ?_
          refine g_istore (pc' := 49) (lv' := [(6, .int (nI (sm + ba))), (10, .int (nI 0)), (9, .int (-1)), (8, .int (nI p9)), (7, .int (nI 1)), (0, .ref x0), (1, .ref t0), (2, .ref c0), (3, .int (nI mc)), (4, .int (nI len)), (5, .int (nI ba))]) C dL_isCover_47 (by decide) rfl rfl ?_
          refine g_iload (pc' := 51) C 1 dL_isCover_49 rfl rfl ?_
          refine g_if_neN (pc' := 54) (tgt := 58) C (by first | assumption | omega) dL_isCover_51 (by decide) rfl (fun z => absurd z (by decide)) (fun _ => ?_)
          refine g_iconst (pc' := 55) (v := nI 1) C dL_isCover_54 (by decide) rfl ?_
          refine g_goto (tgt := 59) C dL_isCover_55 (by decide) ?_
          refine g_istore (pc' := 61) (lv' := [(7, .int (nI 1)), (6, .int (nI (sm + ba))), (10, .int (nI 0)), (9, .int (-1)), (8, .int (nI p9)), (0, .ref x0), (1, .ref t0), (2, .ref c0), (3, .int (nI mc)), (4, .int (nI len)), (5, .int (nI ba))]) C dL_isCover_59 (by decide) rfl rfl ?_
          refine g_goto (tgt := 202) C dL_isCover_61 (by decide) ?_
          refine g_iinc (pc' := 205) (v := nI (p9 + 1)) (lv' := [(8, .int (nI (p9 + 1))), (7, .int (nI 1)), (6, .int (nI (sm + ba))), (10, .int (nI 0)), (9, .int (-1)), (0, .ref x0), (1, .ref t0), (2, .ref c0), (3, .int (nI mc)), (4, .int (nI len)), (5, .int (nI ba))]) C 4 dL_isCover_202 rfl (iincN1 _) (by decide) rfl rfl ?_
          refine g_goto (tgt := 9) C dL_isCover_205 (by decide) ?_
          refine g_lv (lv' := [(8, .int (nI (p9 + 1))), (7, .int (nI 1)), (6, .int (nI (sm + ba))), (0, .ref x0), (1, .ref t0), (2, .ref c0), (3, .int (nI mc)), (4, .int (nI len)), (5, .int (nI ba))]) [0, 1, 2, 5, 6, 7, 8, 9, 10] rfl ?_
          refine g_widen (k' := 20 * (p9 + 1)) (n' := 120 * (p9 + 1)) (by omega) (by omega) ?_
          exact ih_a w_32_10 (p9 + 1) (sm + ba) HX_32_10 (by first | assumption | omega) (by rw [cv_n ho, hsm]) (by omega)
        | some x9 =>
          obtain ⟨hx1, hxt, hx0, hxl, hx64, hxk, hxb⟩ := cv_in HSW ho
          have er_24_9 : r_24_9 = nI (x9.1) := by rw [hr_24_9, ho]; rfl
          subst er_24_9
          have er_32_10 : r_32_10 = nI (x9.2.1) := by rw [hr_32_10, ho]; rfl
          subst er_32_10
          refine g_istore (pc' := 37) (lv' := [(10, .int (nI (x9.2.1))), (9, .int (nI (x9.1))), (8, .int (nI p9)), (7, .int (nI 1)), (6, .int (nI sm)), (0, .ref x0), (1, .ref t0), (2, .ref c0), (3, .int (nI mc)), (4, .int (nI len)), (5, .int (nI ba))]) C dL_isCover_35 (by decide) rfl rfl ?_
          refine g_iload (pc' := 39) C 1 dL_isCover_37 rfl rfl ?_
          refine g_if_geN (pc' := 42) (tgt := 64) C (by first | assumption | omega) dL_isCover_39 (by decide) rfl ?_
          refine g_iload (pc' := 66) C 0 dL_isCover_64 rfl rfl ?_
          refine g_iconst (pc' := 67) (v := nI 1) C dL_isCover_66 (by decide) rfl ?_
          refine g_iload (pc' := 69) C 2 dL_isCover_67 rfl rfl ?_
          refine g_ishl (pc' := 70) (v := nI (2 ^ p9)) C dL_isCover_69 (nI_shl1 _ (by first | assumption | omega)) rfl ?_
          refine g_iconst (pc' := 71) (v := nI 1) C dL_isCover_70 (by decide) rfl ?_
          refine g_isub (pc' := 72) (v := nI ((2 ^ p9) - 1)) C dL_isCover_71 (pk_sub Nat.one_le_two_pow) rfl ?_
          refine g_iand (pc' := 73) (v := nI ((x9.2.1) &&& ((2 ^ p9) - 1))) C dL_isCover_72 (nI_and _ _) rfl ?_
          refine g_if_neN (pc' := 76) (tgt := 80) C (Nat.lt_of_le_of_lt Nat.and_le_left (by omega)) dL_isCover_73 (by decide) rfl (fun c_73_14 => ?_) (fun c_73_14 => ?_)
          · refine g_iconst (pc' := 81) (v := nI 0) C dL_isCover_80 (by decide) rfl ?_
            refine g_istore (pc' := 83) (lv' := [(11, .int (nI 0)), (10, .int (nI (x9.2.1))), (9, .int (nI (x9.1))), (8, .int (nI p9)), (7, .int (nI 1)), (6, .int (nI sm)), (0, .ref x0), (1, .ref t0), (2, .ref c0), (3, .int (nI mc)), (4, .int (nI len)), (5, .int (nI ba))]) C dL_isCover_81 (by decide) rfl rfl ?_
            refine g_iload (pc' := 85) C 5 dL_isCover_83 rfl rfl ?_
            refine g_iload (pc' := 87) C 0 dL_isCover_85 rfl rfl ?_
            refine g_if_eqN (pc' := 90) (tgt := 97) C (by first | assumption | omega) dL_isCover_87 (by decide) rfl (fun _ => ?_) (fun z => absurd z (by decide))
            refine g_iconst (pc' := 98) (v := nI 0) C dL_isCover_97 (by decide) rfl ?_
            refine g_iadd (pc' := 99) (v := nI (sm + 0)) C dL_isCover_98 (nI_add _ _) rfl ?_
            refine g_istore (pc' := 101) (lv' := [(6, .int (nI (sm + 0))), (11, .int (nI 0)), (10, .int (nI (x9.2.1))), (9, .int (nI (x9.1))), (8, .int (nI p9)), (7, .int (nI 1)), (0, .ref x0), (1, .ref t0), (2, .ref c0), (3, .int (nI mc)), (4, .int (nI len)), (5, .int (nI ba))]) C dL_isCover_99 (by decide) rfl rfl ?_
            refine g_iload (pc' := 103) C 3 dL_isCover_101 rfl rfl ?_
            refine g_iload_n (pc' := 104) C 9 dL_isCover_103 rfl rfl rfl ?_
            refine g_icmp_geN (pc' := 107) (tgt := 139) C (by first | assumption | omega) (by first | assumption | omega) dL_isCover_104 (by decide) rfl (fun c_104_16 => absurd c_104_16 (by omega)) (fun c_104_16 => ?_)
            refine g_aload_n (pc' := 108) C 7 dL_isCover_107 rfl rfl rfl ?_
            refine g_iload (pc' := 110) C 3 dL_isCover_108 rfl rfl ?_
            refine g_ialdN (pc' := 111) C 0 (f := (bN th)) rfl (x9.1) (by first | assumption | omega) (by decide) dL_isCover_110 rfl ?_
            refine g_iconst (pc' := 112) (v := nI 1) C dL_isCover_111 (by decide) rfl ?_
            refine g_icmp_neN (pc' := 115) (tgt := 139) C (by rw [bN_t hxt]; decide) (by first | assumption | omega) dL_isCover_112 (by decide) rfl (fun c_112_17 => absurd c_112_17 (by exact fun q => q (bN_t hxt))) (fun c_112_17 => ?_)
            refine g_iload (pc' := 117) C 2 dL_isCover_115 rfl rfl ?_
            refine g_iload (pc' := 119) C 4 dL_isCover_117 rfl rfl ?_
            refine g_ishr (pc' := 120) (v := nI ((x9.2.1) / 2 ^ p9)) C dL_isCover_119 (nI_shr _ _ (by first | assumption | omega) (by first | assumption | omega)) rfl ?_
            refine g_iconst (pc' := 121) (v := nI 1) C dL_isCover_120 (by decide) rfl ?_
            refine g_iand (pc' := 122) (v := nI (((x9.2.1) / 2 ^ p9) &&& 1)) C dL_isCover_121 (nI_and _ _) rfl ?_
            refine g_iconst (pc' := 123) (v := nI 1) C dL_isCover_122 (by decide) rfl ?_
            refine g_icmp_neN (pc' := 126) (tgt := 139) C (Nat.lt_of_le_of_lt (bit_le _ _) (by decide)) (by first | assumption | omega) dL_isCover_123 (by decide) rfl (fun c_123_18 => absurd c_123_18 (by exact fun q => q (of_decide_eq_true hxb))) (fun c_123_18 => ?_)
            refine g_iload (pc' := 128) C 2 dL_isCover_126 rfl rfl ?_
            refine g_iconst (pc' := 129) (v := nI 1) C dL_isCover_128 (by decide) rfl ?_
            refine g_iload (pc' := 131) C 10 dL_isCover_129 rfl rfl ?_
            refine g_ishl (pc' := 132) (v := nI (2 ^ len)) C dL_isCover_131 (nI_shl1 _ (by first | assumption | omega)) rfl ?_
            refine g_icmp_geN (pc' := 135) (tgt := 139) C (by first | assumption | omega) (Nat.lt_of_le_of_lt (pw64 hl6) (by decide)) dL_isCover_132 (by decide) rfl (fun c_132_19 => absurd c_132_19 (by omega)) (fun c_132_19 => ?_)
            refine g_iconst (pc' := 136) (v := nI 1) C dL_isCover_135 (by decide) rfl ?_
            refine g_goto (tgt := 140) C dL_isCover_136 (by decide) ?_
            refine g_istore (pc' := 142) (lv' := [(7, .int (nI 1)), (6, .int (nI (sm + 0))), (11, .int (nI 0)), (10, .int (nI (x9.2.1))), (9, .int (nI (x9.1))), (8, .int (nI p9)), (0, .ref x0), (1, .ref t0), (2, .ref c0), (3, .int (nI mc)), (4, .int (nI len)), (5, .int (nI ba))]) C dL_isCover_140 (by decide) rfl rfl ?_
            refine g_iconst (pc' := 143) (v := nI 0) C dL_isCover_142 (by decide) rfl ?_
            refine g_istore (pc' := 145) (lv' := [(12, .int (nI 0)), (7, .int (nI 1)), (6, .int (nI (sm + 0))), (11, .int (nI 0)), (10, .int (nI (x9.2.1))), (9, .int (nI (x9.1))), (8, .int (nI p9)), (0, .ref x0), (1, .ref t0), (2, .ref c0), (3, .int (nI mc)), (4, .int (nI len)), (5, .int (nI ba))]) C dL_isCover_143 (by decide) rfl rfl ?_
            have lp_b20 : ∀ (fu_b20 : Nat) (wl_b20 : va_W) (q9 : Nat), (LX κ x0 n fk fs len fw ds dr mc th rc ck pm ep ba dy iv dv wl_b20) → (q9 ≤ len) → (len - q9) < fu_b20 → G p l e (rmv 11 120 720) s m ([.ref x0, .ref t0, .ref c0, .int (nI mc), .int (nI len), .int (nI ba)] : List Value).toArray below meth c κ 13 (JM A s) ([(t0, .inl (κ.2 0, 8, .inl (nA (bN th)))), (c0, .inl (κ.2 0, 8, .inl (nA ck)))] ++ wl_b20) (20 * p9 + 2 + 2 * q9) (120 * p9 + 12 + 12 * q9) (vx_MQ below (QMi κ ([(t0, .inl (κ.2 0, 8, .inl (nA (bN th)))), (c0, .inl (κ.2 0, 8, .inl (nA ck)))] ++ wx0) s.heap.size (fun (r : Int32) (w1 : va_W) => r = nI 1 ∧ ∃ w2, w1 = [(t0, .inl (κ.2 0, 8, .inl (nA (bN th)))), (c0, .inl (κ.2 0, 8, .inl (nA ck)))] ++ w2 ∧ LX κ x0 n fk fs len fw ds dr mc th rc ck pm ep ba dy iv dv w2)) (XPw κ ([(t0, .inl (κ.2 0, 8, .inl (nA (bN th)))), (c0, .inl (κ.2 0, 8, .inl (nA ck)))] ++ wx0) s.heap.size (fun _ => False)) ([.ref x0, .ref t0, .ref c0, .int (nI mc), .int (nI len), .int (nI ba)] : List Value).toArray s 120 720 A) 145 [(12, .int (nI q9)), (7, .int (nI 1)), (6, .int (nI (sm + 0))), (11, .int (nI 0)), (10, .int (nI (x9.2.1))), (9, .int (nI (x9.1))), (8, .int (nI p9)), (0, .ref x0), (1, .ref t0), (2, .ref c0), (3, .int (nI mc)), (4, .int (nI len)), (5, .int (nI ba))] [] := by
              intro fu_b20
              induction fu_b20 with
              | zero => intro wl_b20 q9 HL_b20 hq hmu; exact absurd hmu (Nat.not_lt_zero _)
              | succ fu_b20 ih_b20 =>
                intro wl_b20 q9 HL_b20 hq hmu_b20
                refine g_iload (pc' := 147) C 0 dL_isCover_145 rfl rfl ?_
                refine g_iload (pc' := 149) C 11 dL_isCover_147 rfl rfl ?_
                refine g_icmp_geN (pc' := 152) (tgt := 202) C (by first | assumption | omega) (by first | assumption | omega) dL_isCover_149 (by decide) rfl (fun c_149_21 => ?_) (fun c_149_21 => ?_)
                · refine g_iinc (pc' := 205) (v := nI (p9 + 1)) (lv' := [(8, .int (nI (p9 + 1))), (12, .int (nI q9)), (7, .int (nI 1)), (6, .int (nI (sm + 0))), (11, .int (nI 0)), (10, .int (nI (x9.2.1))), (9, .int (nI (x9.1))), (0, .ref x0), (1, .ref t0), (2, .ref c0), (3, .int (nI mc)), (4, .int (nI len)), (5, .int (nI ba))]) C 6 dL_isCover_202 rfl (iincN1 _) (by decide) rfl rfl ?_
                  refine g_goto (tgt := 9) C dL_isCover_205 (by decide) ?_
                  refine g_lv (lv' := [(8, .int (nI (p9 + 1))), (7, .int (nI 1)), (6, .int (nI (sm + 0))), (0, .ref x0), (1, .ref t0), (2, .ref c0), (3, .int (nI mc)), (4, .int (nI len)), (5, .int (nI ba))]) [0, 2, 3, 7, 8, 9, 10, 11, 12] rfl ?_
                  refine g_widen (k' := 20 * (p9 + 1)) (n' := 120 * (p9 + 1)) (by omega) (by omega) ?_
                  exact ih_a wl_b20 (p9 + 1) (sm + 0) HL_b20 (by first | assumption | omega) (by rw [cv_s0 ho c_73_14]; omega) (by omega)
                · refine g_iload (pc' := 154) C 1 dL_isCover_152 rfl rfl ?_
                  refine g_if_eqN (pc' := 157) (tgt := 202) C (by first | assumption | omega) dL_isCover_154 (by decide) rfl (fun z => absurd z (by decide)) (fun _ => ?_)
                  refine g_iload (pc' := 159) C 4 dL_isCover_157 rfl rfl ?_
                  refine g_iload (pc' := 161) C 0 dL_isCover_159 rfl rfl ?_
                  refine g_ishr (pc' := 162) (v := nI ((x9.2.1) / 2 ^ q9)) C dL_isCover_161 (nI_shr _ _ (by first | assumption | omega) (by first | assumption | omega)) rfl ?_
                  refine g_iconst (pc' := 163) (v := nI 1) C dL_isCover_162 (by decide) rfl ?_
                  refine g_iand (pc' := 164) (v := nI (((x9.2.1) / 2 ^ q9) &&& 1)) C dL_isCover_163 (nI_and _ _) rfl ?_
                  refine g_if_eqN (pc' := 167) (tgt := 189) C (Nat.lt_of_le_of_lt (bit_le _ _) (by decide)) dL_isCover_164 (by decide) rfl (fun c_164_23 => ?_) (fun c_164_23 => ?_)
                  · refine g_iconst (pc' := 190) (v := nI 1) C dL_isCover_189 (by decide) rfl ?_
                    refine g_goto (tgt := 194) C dL_isCover_190 (by decide) ?_
                    refine g_istore (pc' := 196) (lv' := [(7, .int (nI 1)), (12, .int (nI q9)), (6, .int (nI (sm + 0))), (11, .int (nI 0)), (10, .int (nI (x9.2.1))), (9, .int (nI (x9.1))), (8, .int (nI p9)), (0, .ref x0), (1, .ref t0), (2, .ref c0), (3, .int (nI mc)), (4, .int (nI len)), (5, .int (nI ba))]) C dL_isCover_194 (by decide) rfl rfl ?_
                    refine g_iinc (pc' := 199) (v := nI (q9 + 1)) (lv' := [(12, .int (nI (q9 + 1))), (7, .int (nI 1)), (6, .int (nI (sm + 0))), (11, .int (nI 0)), (10, .int (nI (x9.2.1))), (9, .int (nI (x9.1))), (8, .int (nI p9)), (0, .ref x0), (1, .ref t0), (2, .ref c0), (3, .int (nI mc)), (4, .int (nI len)), (5, .int (nI ba))]) C 1 dL_isCover_196 rfl (iincN1 _) (by decide) rfl rfl ?_
                    refine g_goto (tgt := 145) C dL_isCover_199 (by decide) ?_
                    refine g_widen (k' := 20 * p9 + 2 + 2 * (q9 + 1)) (n' := 120 * p9 + 12 + 12 * (q9 + 1)) (by omega) (by omega) ?_
                    exact ih_b20 wl_b20 (q9 + 1) HL_b20 (by first | assumption | omega) (by omega)
                  · refine g_aload_n (pc' := 168) C 7 dL_isCover_167 rfl rfl rfl ?_
                    refine g_iload (pc' := 170) C 0 dL_isCover_168 rfl rfl ?_
                    obtain ⟨qx_24, fx_24, hqx_24⟩ := LX.recv HL_b20
                    refine g_fQ (pc' := 173) (wr := [(t0, .inl (κ.2 0, 8, .inl (nA (bN th)))), (c0, .inl (κ.2 0, 8, .inl (nA ck)))]) (wc := wl_b20) C Y.2.2 hA ml_RL_14 lk_RL_14 (hp_placesAt l hst κ x0 q9 HRW HSW HDW HTW HB HK HI (by omega) HL_b20 (by omega)) (fun _ h => h) (List.Perm.refl _) qx_24 hqx_24 rfl rfl (Nat.le_of_ble_eq_true rfl) ⟨Nat.le_of_ble_eq_true rfl, Nat.le_of_ble_eq_true rfl⟩ (by simp only [rmv]; constructor <;> omega) rfl dL_isCover_170 rfl (fun r_170_24 w_170_24 h_170_24 => ?_)
                    obtain ⟨HX_170_24, hr_170_24⟩ := h_170_24
                    have ho2 := cv_same HSW (by omega) (by omega) ho (tb_t0 c_164_23)
                    have er_170_24 : r_170_24 = nI (x9.2.1) := by rw [hr_170_24, ho2]; rfl
                    subst er_170_24
                    refine g_iload (pc' := 175) C 4 dL_isCover_173 rfl rfl ?_
                    refine g_icmp_neN (pc' := 178) (tgt := 193) C (by first | assumption | omega) (by first | assumption | omega) dL_isCover_175 (by decide) rfl (fun c_175_25 => absurd c_175_25 (by exact fun q => q rfl)) (fun c_175_25 => ?_)
                    refine g_aload_n (pc' := 179) C 7 dL_isCover_178 rfl rfl rfl ?_
                    refine g_iload (pc' := 181) C 0 dL_isCover_179 rfl rfl ?_
                    obtain ⟨qx_26, fx_26, hqx_26⟩ := LX.recv HX_170_24
                    refine g_fQ (pc' := 184) (wr := [(t0, .inl (κ.2 0, 8, .inl (nA (bN th)))), (c0, .inl (κ.2 0, 8, .inl (nA ck)))]) (wc := w_170_24) C Y.2.2 hA ml_RL_8 lk_RL_8 (hp_glossAt l hst κ x0 q9 HRW HSW HDW HTW HB HK HI (by omega) HX_170_24 (by omega)) (fun _ h => h) (List.Perm.refl _) qx_26 hqx_26 rfl rfl (Nat.le_of_ble_eq_true rfl) ⟨Nat.le_of_ble_eq_true rfl, Nat.le_of_ble_eq_true rfl⟩ (by simp only [rmv]; constructor <;> omega) rfl dL_isCover_181 rfl (fun r_181_26 w_181_26 h_181_26 => ?_)
                    obtain ⟨HX_181_26, hr_181_26⟩ := h_181_26
                    have er_181_26 : r_181_26 = nI (x9.1) := by rw [hr_181_26, ho2]; rfl
                    subst er_181_26
                    refine g_iload (pc' := 186) C 5 dL_isCover_184 rfl rfl ?_
                    refine g_icmp_neN (pc' := 189) (tgt := 193) C (by first | assumption | omega) (by first | assumption | omega) dL_isCover_186 (by decide) rfl (fun c_186_27 => absurd c_186_27 (by exact fun q => q rfl)) (fun c_186_27 => ?_)
                    refine g_iconst (pc' := 190) (v := nI 1) C dL_isCover_189 (by decide) rfl ?_
                    refine g_goto (tgt := 194) C dL_isCover_190 (by decide) ?_
                    refine g_istore (pc' := 196) (lv' := [(7, .int (nI 1)), (12, .int (nI q9)), (6, .int (nI (sm + 0))), (11, .int (nI 0)), (10, .int (nI (x9.2.1))), (9, .int (nI (x9.1))), (8, .int (nI p9)), (0, .ref x0), (1, .ref t0), (2, .ref c0), (3, .int (nI mc)), (4, .int (nI len)), (5, .int (nI ba))]) C dL_isCover_194 (by decide) rfl rfl ?_
                    refine g_iinc (pc' := 199) (v := nI (q9 + 1)) (lv' := [(12, .int (nI (q9 + 1))), (7, .int (nI 1)), (6, .int (nI (sm + 0))), (11, .int (nI 0)), (10, .int (nI (x9.2.1))), (9, .int (nI (x9.1))), (8, .int (nI p9)), (0, .ref x0), (1, .ref t0), (2, .ref c0), (3, .int (nI mc)), (4, .int (nI len)), (5, .int (nI ba))]) C 1 dL_isCover_196 rfl (iincN1 _) (by decide) rfl rfl ?_
                    refine g_goto (tgt := 145) C dL_isCover_199 (by decide) ?_
                    refine g_widen (k' := 20 * p9 + 2 + 2 * (q9 + 1)) (n' := 120 * p9 + 12 + 12 * (q9 + 1)) (by omega) (by omega) ?_
                    exact ih_b20 w_181_26 (q9 + 1) HX_181_26 (by first | assumption | omega) (by omega)
            refine g_widen (k' := 20 * p9 + 2 + 2 * 0) (n' := 120 * p9 + 12 + 12 * 0) (by omega) (by omega) ?_
            exact lp_b20 (len + 1) w_32_10 0 HX_32_10 (Nat.zero_le _) (by omega)
          · refine g_iconst (pc' := 77) (v := nI 1) C dL_isCover_76 (by decide) rfl ?_
            refine g_goto (tgt := 81) C dL_isCover_77 (by decide) ?_
            refine g_istore (pc' := 83) (lv' := [(11, .int (nI 1)), (10, .int (nI (x9.2.1))), (9, .int (nI (x9.1))), (8, .int (nI p9)), (7, .int (nI 1)), (6, .int (nI sm)), (0, .ref x0), (1, .ref t0), (2, .ref c0), (3, .int (nI mc)), (4, .int (nI len)), (5, .int (nI ba))]) C dL_isCover_81 (by decide) rfl rfl ?_
            refine g_iload (pc' := 85) C 5 dL_isCover_83 rfl rfl ?_
            refine g_iload (pc' := 87) C 0 dL_isCover_85 rfl rfl ?_
            refine g_if_eqN (pc' := 90) (tgt := 97) C (by first | assumption | omega) dL_isCover_87 (by decide) rfl (fun z => absurd z (by decide)) (fun _ => ?_)
            refine g_aload_n (pc' := 91) C 8 dL_isCover_90 rfl rfl rfl ?_
            refine g_iload (pc' := 93) C 2 dL_isCover_91 rfl rfl ?_
            refine g_ialdN (pc' := 94) C 1 (f := ck) rfl (x9.1) (by first | assumption | omega) (by decide) dL_isCover_93 rfl ?_
            refine g_goto (tgt := 98) C dL_isCover_94 (by decide) ?_
            refine g_iadd (pc' := 99) (v := nI (sm + (ck (x9.1)))) C dL_isCover_98 (nI_add _ _) rfl ?_
            refine g_istore (pc' := 101) (lv' := [(6, .int (nI (sm + (ck (x9.1))))), (11, .int (nI 1)), (10, .int (nI (x9.2.1))), (9, .int (nI (x9.1))), (8, .int (nI p9)), (7, .int (nI 1)), (0, .ref x0), (1, .ref t0), (2, .ref c0), (3, .int (nI mc)), (4, .int (nI len)), (5, .int (nI ba))]) C dL_isCover_99 (by decide) rfl rfl ?_
            refine g_iload (pc' := 103) C 3 dL_isCover_101 rfl rfl ?_
            refine g_iload_n (pc' := 104) C 9 dL_isCover_103 rfl rfl rfl ?_
            refine g_icmp_geN (pc' := 107) (tgt := 139) C (by first | assumption | omega) (by first | assumption | omega) dL_isCover_104 (by decide) rfl (fun c_104_29 => absurd c_104_29 (by omega)) (fun c_104_29 => ?_)
            refine g_aload_n (pc' := 108) C 7 dL_isCover_107 rfl rfl rfl ?_
            refine g_iload (pc' := 110) C 3 dL_isCover_108 rfl rfl ?_
            refine g_ialdN (pc' := 111) C 0 (f := (bN th)) rfl (x9.1) (by first | assumption | omega) (by decide) dL_isCover_110 rfl ?_
            refine g_iconst (pc' := 112) (v := nI 1) C dL_isCover_111 (by decide) rfl ?_
            refine g_icmp_neN (pc' := 115) (tgt := 139) C (by rw [bN_t hxt]; decide) (by first | assumption | omega) dL_isCover_112 (by decide) rfl (fun c_112_30 => absurd c_112_30 (by exact fun q => q (bN_t hxt))) (fun c_112_30 => ?_)
            refine g_iload (pc' := 117) C 2 dL_isCover_115 rfl rfl ?_
            refine g_iload (pc' := 119) C 4 dL_isCover_117 rfl rfl ?_
            refine g_ishr (pc' := 120) (v := nI ((x9.2.1) / 2 ^ p9)) C dL_isCover_119 (nI_shr _ _ (by first | assumption | omega) (by first | assumption | omega)) rfl ?_
            refine g_iconst (pc' := 121) (v := nI 1) C dL_isCover_120 (by decide) rfl ?_
            refine g_iand (pc' := 122) (v := nI (((x9.2.1) / 2 ^ p9) &&& 1)) C dL_isCover_121 (nI_and _ _) rfl ?_
            refine g_iconst (pc' := 123) (v := nI 1) C dL_isCover_122 (by decide) rfl ?_
            refine g_icmp_neN (pc' := 126) (tgt := 139) C (Nat.lt_of_le_of_lt (bit_le _ _) (by decide)) (by first | assumption | omega) dL_isCover_123 (by decide) rfl (fun c_123_31 => absurd c_123_31 (by exact fun q => q (of_decide_eq_true hxb))) (fun c_123_31 => ?_)
            refine g_iload (pc' := 128) C 2 dL_isCover_126 rfl rfl ?_
            refine g_iconst (pc' := 129) (v := nI 1) C dL_isCover_128 (by decide) rfl ?_
            refine g_iload (pc' := 131) C 10 dL_isCover_129 rfl rfl ?_
            refine g_ishl (pc' := 132) (v := nI (2 ^ len)) C dL_isCover_131 (nI_shl1 _ (by first | assumption | omega)) rfl ?_
            refine g_icmp_geN (pc' := 135) (tgt := 139) C (by first | assumption | omega) (Nat.lt_of_le_of_lt (pw64 hl6) (by decide)) dL_isCover_132 (by decide) rfl (fun c_132_32 => absurd c_132_32 (by omega)) (fun c_132_32 => ?_)
            refine g_iconst (pc' := 136) (v := nI 1) C dL_isCover_135 (by decide) rfl ?_
            refine g_goto (tgt := 140) C dL_isCover_136 (by decide) ?_
            refine g_istore (pc' := 142) (lv' := [(7, .int (nI 1)), (6, .int (nI (sm + (ck (x9.1))))), (11, .int (nI 1)), (10, .int (nI (x9.2.1))), (9, .int (nI (x9.1))), (8, .int (nI p9)), (0, .ref x0), (1, .ref t0), (2, .ref c0), (3, .int (nI mc)), (4, .int (nI len)), (5, .int (nI ba))]) C dL_isCover_140 (by decide) rfl rfl ?_
            refine g_iconst (pc' := 143) (v := nI 0) C dL_isCover_142 (by decide) rfl ?_
            refine g_istore (pc' := 145) (lv' := [(12, .int (nI 0)), (7, .int (nI 1)), (6, .int (nI (sm + (ck (x9.1))))), (11, .int (nI 1)), (10, .int (nI (x9.2.1))), (9, .int (nI (x9.1))), (8, .int (nI p9)), (0, .ref x0), (1, .ref t0), (2, .ref c0), (3, .int (nI mc)), (4, .int (nI len)), (5, .int (nI ba))]) C dL_isCover_143 (by decide) rfl rfl ?_
            have lp_b33 : ∀ (fu_b33 : Nat) (wl_b33 : va_W) (q9 : Nat), (LX κ x0 n fk fs len fw ds dr mc th rc ck pm ep ba dy iv dv wl_b33) → (q9 ≤ len) → (len - q9) < fu_b33 → G p l e (rmv 11 120 720) s m ([.ref x0, .ref t0, .ref c0, .int (nI mc), .int (nI len), .int (nI ba)] : List Value).toArray below meth c κ 13 (JM A s) ([(t0, .inl (κ.2 0, 8, .inl (nA (bN th)))), (c0, .inl (κ.2 0, 8, .inl (nA ck)))] ++ wl_b33) (20 * p9 + 2 + 2 * q9) (120 * p9 + 12 + 12 * q9) (vx_MQ below (QMi κ ([(t0, .inl (κ.2 0, 8, .inl (nA (bN th)))), (c0, .inl (κ.2 0, 8, .inl (nA ck)))] ++ wx0) s.heap.size (fun (r : Int32) (w1 : va_W) => r = nI 1 ∧ ∃ w2, w1 = [(t0, .inl (κ.2 0, 8, .inl (nA (bN th)))), (c0, .inl (κ.2 0, 8, .inl (nA ck)))] ++ w2 ∧ LX κ x0 n fk fs len fw ds dr mc th rc ck pm ep ba dy iv dv w2)) (XPw κ ([(t0, .inl (κ.2 0, 8, .inl (nA (bN th)))), (c0, .inl (κ.2 0, 8, .inl (nA ck)))] ++ wx0) s.heap.size (fun _ => False)) ([.ref x0, .ref t0, .ref c0, .int (nI mc), .int (nI len), .int (nI ba)] : List Value).toArray s 120 720 A) 145 [(12, .int (nI q9)), (7, .int (nI 1)), (6, .int (nI (sm + (ck (x9.1))))), (11, .int (nI 1)), (10, .int (nI (x9.2.1))), (9, .int (nI (x9.1))), (8, .int (nI p9)), (0, .ref x0), (1, .ref t0), (2, .ref c0), (3, .int (nI mc)), (4, .int (nI len)), (5, .int (nI ba))] [] := by
              intro fu_b33
              induction fu_b33 with
              | zero => intro wl_b33 q9 HL_b33 hq hmu; exact absurd hmu (Nat.not_lt_zero _)
              | succ fu_b33 ih_b33 =>
                intro wl_b33 q9 HL_b33 hq hmu_b33
                refine g_iload (pc' := 147) C 0 dL_isCover_145 rfl rfl ?_
                refine g_iload (pc' := 149) C 11 dL_isCover_147 rfl rfl ?_
                refine g_icmp_geN (pc' := 152) (tgt := 202) C (by first | assumption | omega) (by first | assumption | omega) dL_isCover_149 (by decide) rfl (fun c_149_34 => ?_) (fun c_149_34 => ?_)
                · refine g_iinc (pc' := 205) (v := nI (p9 + 1)) (lv' := [(8, .int (nI (p9 + 1))), (12, .int (nI q9)), (7, .int (nI 1)), (6, .int (nI (sm + (ck (x9.1))))), (11, .int (nI 1)), (10, .int (nI (x9.2.1))), (9, .int (nI (x9.1))), (0, .ref x0), (1, .ref t0), (2, .ref c0), (3, .int (nI mc)), (4, .int (nI len)), (5, .int (nI ba))]) C 6 dL_isCover_202 rfl (iincN1 _) (by decide) rfl rfl ?_
                  refine g_goto (tgt := 9) C dL_isCover_205 (by decide) ?_
                  refine g_lv (lv' := [(8, .int (nI (p9 + 1))), (7, .int (nI 1)), (6, .int (nI (sm + (ck (x9.1))))), (0, .ref x0), (1, .ref t0), (2, .ref c0), (3, .int (nI mc)), (4, .int (nI len)), (5, .int (nI ba))]) [0, 2, 3, 7, 8, 9, 10, 11, 12] rfl ?_
                  refine g_widen (k' := 20 * (p9 + 1)) (n' := 120 * (p9 + 1)) (by omega) (by omega) ?_
                  exact ih_a wl_b33 (p9 + 1) (sm + (ck (x9.1))) HL_b33 (by first | assumption | omega) (by rw [cv_s1 HSW ho c_73_14]; omega) (by omega)
                · refine g_iload (pc' := 154) C 1 dL_isCover_152 rfl rfl ?_
                  refine g_if_eqN (pc' := 157) (tgt := 202) C (by first | assumption | omega) dL_isCover_154 (by decide) rfl (fun z => absurd z (by decide)) (fun _ => ?_)
                  refine g_iload (pc' := 159) C 4 dL_isCover_157 rfl rfl ?_
                  refine g_iload (pc' := 161) C 0 dL_isCover_159 rfl rfl ?_
                  refine g_ishr (pc' := 162) (v := nI ((x9.2.1) / 2 ^ q9)) C dL_isCover_161 (nI_shr _ _ (by first | assumption | omega) (by first | assumption | omega)) rfl ?_
                  refine g_iconst (pc' := 163) (v := nI 1) C dL_isCover_162 (by decide) rfl ?_
                  refine g_iand (pc' := 164) (v := nI (((x9.2.1) / 2 ^ q9) &&& 1)) C dL_isCover_163 (nI_and _ _) rfl ?_
                  refine g_if_eqN (pc' := 167) (tgt := 189) C (Nat.lt_of_le_of_lt (bit_le _ _) (by decide)) dL_isCover_164 (by decide) rfl (fun c_164_36 => ?_) (fun c_164_36 => ?_)
                  · refine g_iconst (pc' := 190) (v := nI 1) C dL_isCover_189 (by decide) rfl ?_
                    refine g_goto (tgt := 194) C dL_isCover_190 (by decide) ?_
                    refine g_istore (pc' := 196) (lv' := [(7, .int (nI 1)), (12, .int (nI q9)), (6, .int (nI (sm + (ck (x9.1))))), (11, .int (nI 1)), (10, .int (nI (x9.2.1))), (9, .int (nI (x9.1))), (8, .int (nI p9)), (0, .ref x0), (1, .ref t0), (2, .ref c0), (3, .int (nI mc)), (4, .int (nI len)), (5, .int (nI ba))]) C dL_isCover_194 (by decide) rfl rfl ?_
                    refine g_iinc (pc' := 199) (v := nI (q9 + 1)) (lv' := [(12, .int (nI (q9 + 1))), (7, .int (nI 1)), (6, .int (nI (sm + (ck (x9.1))))), (11, .int (nI 1)), (10, .int (nI (x9.2.1))), (9, .int (nI (x9.1))), (8, .int (nI p9)), (0, .ref x0), (1, .ref t0), (2, .ref c0), (3, .int (nI mc)), (4, .int (nI len)), (5, .int (nI ba))]) C 1 dL_isCover_196 rfl (iincN1 _) (by decide) rfl rfl ?_
                    refine g_goto (tgt := 145) C dL_isCover_199 (by decide) ?_
                    refine g_widen (k' := 20 * p9 + 2 + 2 * (q9 + 1)) (n' := 120 * p9 + 12 + 12 * (q9 + 1)) (by omega) (by omega) ?_
                    exact ih_b33 wl_b33 (q9 + 1) HL_b33 (by first | assumption | omega) (by omega)
                  · refine g_aload_n (pc' := 168) C 7 dL_isCover_167 rfl rfl rfl ?_
                    refine g_iload (pc' := 170) C 0 dL_isCover_168 rfl rfl ?_
                    obtain ⟨qx_37, fx_37, hqx_37⟩ := LX.recv HL_b33
                    refine g_fQ (pc' := 173) (wr := [(t0, .inl (κ.2 0, 8, .inl (nA (bN th)))), (c0, .inl (κ.2 0, 8, .inl (nA ck)))]) (wc := wl_b33) C Y.2.2 hA ml_RL_14 lk_RL_14 (hp_placesAt l hst κ x0 q9 HRW HSW HDW HTW HB HK HI (by omega) HL_b33 (by omega)) (fun _ h => h) (List.Perm.refl _) qx_37 hqx_37 rfl rfl (Nat.le_of_ble_eq_true rfl) ⟨Nat.le_of_ble_eq_true rfl, Nat.le_of_ble_eq_true rfl⟩ (by simp only [rmv]; constructor <;> omega) rfl dL_isCover_170 rfl (fun r_170_37 w_170_37 h_170_37 => ?_)
                    obtain ⟨HX_170_37, hr_170_37⟩ := h_170_37
                    have ho2 := cv_same HSW (by omega) (by omega) ho (tb_t0 c_164_36)
                    have er_170_37 : r_170_37 = nI (x9.2.1) := by rw [hr_170_37, ho2]; rfl
                    subst er_170_37
                    refine g_iload (pc' := 175) C 4 dL_isCover_173 rfl rfl ?_
                    refine g_icmp_neN (pc' := 178) (tgt := 193) C (by first | assumption | omega) (by first | assumption | omega) dL_isCover_175 (by decide) rfl (fun c_175_38 => absurd c_175_38 (by exact fun q => q rfl)) (fun c_175_38 => ?_)
                    refine g_aload_n (pc' := 179) C 7 dL_isCover_178 rfl rfl rfl ?_
                    refine g_iload (pc' := 181) C 0 dL_isCover_179 rfl rfl ?_
                    obtain ⟨qx_39, fx_39, hqx_39⟩ := LX.recv HX_170_37
                    refine g_fQ (pc' := 184) (wr := [(t0, .inl (κ.2 0, 8, .inl (nA (bN th)))), (c0, .inl (κ.2 0, 8, .inl (nA ck)))]) (wc := w_170_37) C Y.2.2 hA ml_RL_8 lk_RL_8 (hp_glossAt l hst κ x0 q9 HRW HSW HDW HTW HB HK HI (by omega) HX_170_37 (by omega)) (fun _ h => h) (List.Perm.refl _) qx_39 hqx_39 rfl rfl (Nat.le_of_ble_eq_true rfl) ⟨Nat.le_of_ble_eq_true rfl, Nat.le_of_ble_eq_true rfl⟩ (by simp only [rmv]; constructor <;> omega) rfl dL_isCover_181 rfl (fun r_181_39 w_181_39 h_181_39 => ?_)
                    obtain ⟨HX_181_39, hr_181_39⟩ := h_181_39
                    have er_181_39 : r_181_39 = nI (x9.1) := by rw [hr_181_39, ho2]; rfl
                    subst er_181_39
                    refine g_iload (pc' := 186) C 5 dL_isCover_184 rfl rfl ?_
                    refine g_icmp_neN (pc' := 189) (tgt := 193) C (by first | assumption | omega) (by first | assumption | omega) dL_isCover_186 (by decide) rfl (fun c_186_40 => absurd c_186_40 (by exact fun q => q rfl)) (fun c_186_40 => ?_)
                    refine g_iconst (pc' := 190) (v := nI 1) C dL_isCover_189 (by decide) rfl ?_
                    refine g_goto (tgt := 194) C dL_isCover_190 (by decide) ?_
                    refine g_istore (pc' := 196) (lv' := [(7, .int (nI 1)), (12, .int (nI q9)), (6, .int (nI (sm + (ck (x9.1))))), (11, .int (nI 1)), (10, .int (nI (x9.2.1))), (9, .int (nI (x9.1))), (8, .int (nI p9)), (0, .ref x0), (1, .ref t0), (2, .ref c0), (3, .int (nI mc)), (4, .int (nI len)), (5, .int (nI ba))]) C dL_isCover_194 (by decide) rfl rfl ?_
                    refine g_iinc (pc' := 199) (v := nI (q9 + 1)) (lv' := [(12, .int (nI (q9 + 1))), (7, .int (nI 1)), (6, .int (nI (sm + (ck (x9.1))))), (11, .int (nI 1)), (10, .int (nI (x9.2.1))), (9, .int (nI (x9.1))), (8, .int (nI p9)), (0, .ref x0), (1, .ref t0), (2, .ref c0), (3, .int (nI mc)), (4, .int (nI len)), (5, .int (nI ba))]) C 1 dL_isCover_196 rfl (iincN1 _) (by decide) rfl rfl ?_
                    refine g_goto (tgt := 145) C dL_isCover_199 (by decide) ?_
                    refine g_widen (k' := 20 * p9 + 2 + 2 * (q9 + 1)) (n' := 120 * p9 + 12 + 12 * (q9 + 1)) (by omega) (by omega) ?_
                    exact ih_b33 w_181_39 (q9 + 1) HX_181_39 (by first | assumption | omega) (by omega)
            refine g_widen (k' := 20 * p9 + 2 + 2 * 0) (n' := 120 * p9 + 12 + 12 * 0) (by omega) (by omega) ?_
            exact lp_b33 (len + 1) w_32_10 0 HX_32_10 (Nat.zero_le _) (by omega)
  refine g_widen (k' := 20 * 0) (n' := 120 * 0) (by omega) (by omega) ?_
  exact lp_a (len + 1) wx0 0 0 HX0 (Nat.zero_le _) rfl (by omega)
