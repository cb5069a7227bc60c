section LAW
variable {p : Program} {l : Launch} {e : Env} {s : State} {m : MethodId} {below : List Frame} {meth : Method} {c : Code} {κ : KK} {b L x0 t0 c0 v0 d0 : Nat} {xs : Nat → Int32}
set_option maxHeartbeats 4000000 in
set_option maxRecDepth 100000 in
theorem law_880 (hlc : LC l p s m meth c κ b L xs) (i : Nat) (hi : i < 70) {wx : va_W} {n : Nat} {fk : Nat → Nat} {fs : Nat → Nat} {len : Nat} {fw : Nat → Nat} {dr : Nat → Option Nat} {mc : Nat} {th : Nat → Bool} {rc : Nat → Option Nat} {ck : Nat → Nat} {pm : Nat → Nat} {ep : Nat → Nat → Option Nat} {ba : Nat} {dy : Nat} {iv : Nat → Nat → Nat} {dv : Nat → Nat → Nat} (HRW : RW n fk fs) (HSW : SW len fw) (HDW : DW 0 dr) (HTW : TW mc th rc ck pm ep) (HB : ba ≤ 50) (HK : KW iv dv) (HI : IW iv) (hdy : dy ≤ 100 * (i + 1)) (HC : CW mc iv) (HX : LX κ x0 n fk fs len fw 0 dr mc th rc ck pm ep ba dy iv dv wx) (KN : NXT p l e s m below meth c κ b x0 t0 c0 v0 d0 i) {r9 : Nat} (hr9 : r9 < 3) : G p l e room_1 s m #[Value.ref b] below meth c κ 23 (JM (fun q => s.heap.size ≤ q) s) ([(t0, .inl (κ.2 0, 8, .inl (nA (bN th)))), (c0, .inl (κ.2 0, 8, .inl (nA ck))), (v0, .inl (κ.2 0, 24, .inl (nA (fl8 iv)))), (d0, .inl (κ.2 0, 24, .inl (nA (fl8 dv))))] ++ wx) (100 + 200 * i + 40) (2000 + 2000 * i + 400) (lw_Z below #[Value.ref b] s) 880 [(11, .int (nI i)), (10, .int (nI dy)), (9, .int (nI ba)), (8, .int (nI len)), (7, .int (nI n)), (6, .int (nI mc)), (5, .ref d0), (4, .ref v0), (3, .ref c0), (2, .ref t0), (1, .ref x0), (0, .ref b), (15, .int (nI 1)), (17, .int (nI r9))] [] := by
  skip
  have hlcQ := hlc
  obtain ⟨C, YY, hX, hbl, hL, hst⟩ := hlcQ
  have hA : ∀ q, s.heap.size ≤ q → (fun q => s.heap.size ≤ q) q := fun _ h => h
  have hbA : ¬ (fun q => s.heap.size ≤ q) b := Nat.not_le.mpr hbl
  have hl6 := HSW.1
  have hm8 := HTW.1
  have hn6 := HRW.1
  refine g_iconst (pc' := 881) (v := nI 0) C dL_law_880 (by decide) rfl ?_
  refine g_istore (pc' := 883) (lv' := [(19, .int (nI 0)), (11, .int (nI i)), (10, .int (nI dy)), (9, .int (nI ba)), (8, .int (nI len)), (7, .int (nI n)), (6, .int (nI mc)), (5, .ref d0), (4, .ref v0), (3, .ref c0), (2, .ref t0), (1, .ref x0), (0, .ref b), (15, .int (nI 1)), (17, .int (nI r9))]) C dL_law_881 (by decide) rfl rfl ?_
  refine g_iconst (pc' := 884) (v := (-1)) C dL_law_883 (by decide) rfl ?_
  refine g_istore (pc' := 886) (lv' := [(20, .int (-1)), (19, .int (nI 0)), (11, .int (nI i)), (10, .int (nI dy)), (9, .int (nI ba)), (8, .int (nI len)), (7, .int (nI n)), (6, .int (nI mc)), (5, .ref d0), (4, .ref v0), (3, .ref c0), (2, .ref t0), (1, .ref x0), (0, .ref b), (15, .int (nI 1)), (17, .int (nI r9))]) C dL_law_884 (by decide) rfl rfl ?_
  refine g_iconst (pc' := 887) (v := nI 0) C dL_law_886 (by decide) rfl ?_
  refine g_istore (pc' := 889) (lv' := [(21, .int (nI 0)), (20, .int (-1)), (19, .int (nI 0)), (11, .int (nI i)), (10, .int (nI dy)), (9, .int (nI ba)), (8, .int (nI len)), (7, .int (nI n)), (6, .int (nI mc)), (5, .ref d0), (4, .ref v0), (3, .ref c0), (2, .ref t0), (1, .ref x0), (0, .ref b), (15, .int (nI 1)), (17, .int (nI r9))]) C dL_law_887 (by decide) rfl rfl ?_
  have lp_a : ∀ (fu_a : Nat) (wl_a : va_W) (k9 : Nat) (wt : Nat) (o9 : Option Nat), (LX κ x0 n fk fs len fw 0 dr mc th rc ck pm ep ba dy iv dv wl_a) → (k9 ≤ mc) → (wt = cntB (fun e => decide (0 < iv r9 e) && decide (dv r9 e ≤ dy)) k9) → (fsC (iv r9) (dv r9) k9 = o9) → (mc - k9) < fu_a → G p l e room_1 s m #[Value.ref b] below meth c κ 23 (JM (fun q => s.heap.size ≤ q) s) ([(t0, .inl (κ.2 0, 8, .inl (nA (bN th)))), (c0, .inl (κ.2 0, 8, .inl (nA ck))), (v0, .inl (κ.2 0, 24, .inl (nA (fl8 iv)))), (d0, .inl (κ.2 0, 24, .inl (nA (fl8 dv))))] ++ wl_a) (100 + 200 * i + 40) (2000 + 2000 * i + 400) (lw_Z below #[Value.ref b] s) 889 [(21, .int (nI k9)), (19, .int (nI wt)), (20, .int (oI o9)), (11, .int (nI i)), (10, .int (nI dy)), (9, .int (nI ba)), (8, .int (nI len)), (7, .int (nI n)), (6, .int (nI mc)), (5, .ref d0), (4, .ref v0), (3, .ref c0), (2, .ref t0), (1, .ref x0), (0, .ref b), (15, .int (nI 1)), (17, .int (nI r9))] [] := by
    intro fu_a
    induction fu_a with
    | zero => intro wl_a k9 wt o9 HL_a hk9 hw ho hmu; exact absurd hmu (Nat.not_lt_zero _)
    | succ fu_a ih_a =>
      intro wl_a k9 wt o9 HL_a hk9 hw ho hmu_a
      have hwl : wt ≤ 8 := by rw [hw]; exact Nat.le_trans (cntB_le _ k9) (by omega)
      refine g_iload (pc' := 891) C 0 dL_law_889 rfl rfl ?_
      refine g_iload (pc' := 893) C 8 dL_law_891 rfl rfl ?_
      refine g_icmp_geN (pc' := 896) (tgt := 998) C (by first | assumption | omega) (by first | assumption | omega) dL_law_893 (by decide) rfl (fun c_893_1 => ?_) (fun c_893_1 => ?_)
      · refine g_iload (pc' := 1000) C 15 dL_law_998 rfl rfl ?_
        refine g_if_eqN (pc' := 1003) (tgt := 1040) C (by first | assumption | omega) dL_law_1000 (by decide) rfl (fun z => absurd z (by decide)) (fun _ => ?_)
        refine g_aload_n (pc' := 1004) C 13 dL_law_1003 rfl rfl rfl ?_
        refine g_iload (pc' := 1006) C 16 dL_law_1004 rfl rfl ?_
        obtain ⟨qx_3, fx_3, hqx_3⟩ := LX.recv HL_a
        refine g_fQ (pc' := 1009) (wr := [(t0, .inl (κ.2 0, 8, .inl (nA (bN th)))), (c0, .inl (κ.2 0, 8, .inl (nA ck))), (v0, .inl (κ.2 0, 24, .inl (nA (fl8 iv)))), (d0, .inl (κ.2 0, 24, .inl (nA (fl8 dv))))]) (wc := wl_a) C YY hA ml_RL_74 lk_RL_74 (hp_due l hst κ x0 r9 HRW HSW HDW HTW HB HK HI (by omega) HL_a (by omega)) (fun _ h => h) (List.Perm.refl _) qx_3 hqx_3 rfl rfl (Nat.le_of_ble_eq_true rfl) ⟨(by show 4 + 9 ≤ 2048; decide), (by show 219 + 4 + 40 * (4) ≤ 84000; decide)⟩ ⟨(by show _ ≤ 600104; omega), (by show _ ≤ 7301314; omega)⟩ rfl dL_law_1006 rfl (fun r_1006_3 w_1006_3 h_1006_3 => ?_)
        obtain ⟨HX_1006_3, hr_1006_3⟩ := h_1006_3
        have er_1006_3 : r_1006_3 = nI wt := by rw [hr_1006_3, due_mc HC hm8, hw, show k9 = mc by omega]
        subst er_1006_3
        refine g_iload (pc' := 1011) C 1 dL_law_1009 rfl rfl ?_
        refine g_icmp_neN (pc' := 1014) (tgt := 1040) C (by first | assumption | omega) (by first | assumption | omega) dL_law_1011 (by decide) rfl (fun c_1011_4 => absurd c_1011_4 (by exact fun q => q rfl)) (fun c_1011_4 => ?_)
        refine g_aload_n (pc' := 1015) C 13 dL_law_1014 rfl rfl rfl ?_
        refine g_iload (pc' := 1017) C 16 dL_law_1015 rfl rfl ?_
        obtain ⟨qx_5, fx_5, hqx_5⟩ := LX.recv HX_1006_3
        refine g_fQ (pc' := 1020) (wr := [(t0, .inl (κ.2 0, 8, .inl (nA (bN th)))), (c0, .inl (κ.2 0, 8, .inl (nA ck))), (v0, .inl (κ.2 0, 24, .inl (nA (fl8 iv)))), (d0, .inl (κ.2 0, 24, .inl (nA (fl8 dv))))]) (wc := w_1006_3) C YY hA ml_RL_77 lk_RL_77 (hp_nextDue l hst κ x0 r9 HRW HSW HDW HTW HB HK HI (by omega) HX_1006_3 (by omega)) (fun _ h => h) (List.Perm.refl _) qx_5 hqx_5 rfl rfl (Nat.le_of_ble_eq_true rfl) ⟨(by show 4 + 9 ≤ 2048; decide), (by show 219 + 2 + 40 * (4) ≤ 84000; decide)⟩ ⟨(by show _ ≤ 600104; omega), (by show _ ≤ 7301314; omega)⟩ rfl dL_law_1017 rfl (fun r_1017_5 w_1017_5 h_1017_5 => ?_)
        obtain ⟨HX_1017_5, hr_1017_5⟩ := h_1017_5
        have er_1017_5 : r_1017_5 = oI o9 := by rw [hr_1017_5, fs_more (fun j hj => HC r9 j hj) hm8, ← ho, show k9 = mc by omega]
        subst er_1017_5
        refine g_iload (pc' := 1022) C 2 dL_law_1020 rfl rfl ?_
        refine g_icmp_ne (pc' := 1025) (tgt := 1040) C dL_law_1022 (by decide) rfl (fun c_1022_6 => absurd c_1022_6 (by exact fun q => q rfl)) (fun c_1022_6 => ?_)
        refine g_aload_n (pc' := 1026) C 13 dL_law_1025 rfl rfl rfl ?_
        refine g_aload_n (pc' := 1027) C 12 dL_law_1026 rfl rfl rfl ?_
        refine g_aload_n (pc' := 1028) C 11 dL_law_1027 rfl rfl rfl ?_
        refine g_iload (pc' := 1030) C 8 dL_law_1028 rfl rfl ?_
        refine g_iload (pc' := 1032) C 6 dL_law_1030 rfl rfl ?_
        refine g_iload (pc' := 1034) C 5 dL_law_1032 rfl rfl ?_
        refine g_fQS (pc' := 1037) (wr := [(v0, .inl (κ.2 0, 24, .inl (nA (fl8 iv)))), (d0, .inl (κ.2 0, 24, .inl (nA (fl8 dv))))]) (wc := [(t0, .inl (κ.2 0, 8, .inl (nA (bN th)))), (c0, .inl (κ.2 0, 8, .inl (nA ck)))] ++ w_1017_5) C YY hA ml_RL_80 lk_RL_80 (kL_isCover l hst κ x0 t0 c0 HRW HSW HDW HTW HB HK HI (by omega) HX_1017_5) (fun _ h => h) (pm_tailC (pm_of (X := [(t0, .inl (κ.2 0, 8, .inl (nA (bN th)))), (c0, .inl (κ.2 0, 8, .inl (nA ck))), (v0, .inl (κ.2 0, 24, .inl (nA (fl8 iv)))), (d0, .inl (κ.2 0, 24, .inl (nA (fl8 dv))))]) (Y := [(v0, .inl (κ.2 0, 24, .inl (nA (fl8 iv)))), (d0, .inl (κ.2 0, 24, .inl (nA (fl8 dv))))] ++ [(t0, .inl (κ.2 0, 8, .inl (nA (bN th)))), (c0, .inl (κ.2 0, 8, .inl (nA ck)))]) 4 [2, 3, 0, 1] rfl (by decide +kernel) rfl)) rfl (Nat.le_of_ble_eq_true rfl) ⟨(by show 11 + 9 ≤ 2048; decide), (by show 219 + 13 + 40 * (11) ≤ 84000; decide)⟩ ⟨(by show _ ≤ 600104; omega), (by show _ ≤ 7301314; omega)⟩ rfl dL_law_1034 rfl (fun r w h => ?_)
        obtain ⟨rfl, w_1034_7, rfl, HX_1034_7⟩ := h
        refine g_perm (ws' := [(t0, .inl (κ.2 0, 8, .inl (nA (bN th)))), (c0, .inl (κ.2 0, 8, .inl (nA ck))), (v0, .inl (κ.2 0, 24, .inl (nA (fl8 iv)))), (d0, .inl (κ.2 0, 24, .inl (nA (fl8 dv))))] ++ w_1034_7) (pm_tailC (pm_of (X := [(t0, .inl (κ.2 0, 8, .inl (nA (bN th)))), (c0, .inl (κ.2 0, 8, .inl (nA ck))), (v0, .inl (κ.2 0, 24, .inl (nA (fl8 iv)))), (d0, .inl (κ.2 0, 24, .inl (nA (fl8 dv))))]) (Y := [(v0, .inl (κ.2 0, 24, .inl (nA (fl8 iv)))), (d0, .inl (κ.2 0, 24, .inl (nA (fl8 dv))))] ++ [(t0, .inl (κ.2 0, 8, .inl (nA (bN th)))), (c0, .inl (κ.2 0, 8, .inl (nA ck)))]) 4 [2, 3, 0, 1] rfl (by decide +kernel) rfl)).symm ?_
        refine g_if_neN (pc' := 1040) (tgt := 1042) C (by first | assumption | omega) dL_law_1037 (by decide) rfl (fun _ => ?_) (fun z => absurd z (by decide))
        refine g_iinc (pc' := 1045) (v := nI (i + 1)) (lv' := [(11, .int (nI (i + 1))), (21, .int (nI k9)), (19, .int (nI wt)), (20, .int (oI o9)), (10, .int (nI dy)), (9, .int (nI ba)), (8, .int (nI len)), (7, .int (nI n)), (6, .int (nI mc)), (5, .ref d0), (4, .ref v0), (3, .ref c0), (2, .ref t0), (1, .ref x0), (0, .ref b), (15, .int (nI 1)), (17, .int (nI r9))]) C 3 dL_law_1042 rfl (iincN1 _) (by decide) rfl rfl ?_
        refine g_goto (tgt := 49) C dL_law_1045 (by decide) ?_
        refine g_lv (lv' := [(11, .int (nI (i + 1))), (10, .int (nI dy)), (9, .int (nI ba)), (8, .int (nI len)), (7, .int (nI n)), (6, .int (nI mc)), (5, .ref d0), (4, .ref v0), (3, .ref c0), (2, .ref t0), (1, .ref x0), (0, .ref b)]) [0, 4, 5, 6, 7, 8, 9, 10, 11, 12, 13, 14] rfl ?_
        refine g_widen (k' := 100 + 200 * (i + 1)) (n' := 2000 + 2000 * (i + 1)) (by omega) (by omega) ?_
        exact KN _ _ _ _ _ _ _ _ _ _ _ _ _ _ _ _ _ HRW HSW HDW HTW HB HK HI (by omega) HC HX_1034_7
      · refine g_aload (pc' := 898) C 10 dL_law_896 rfl rfl ?_
        refine g_bipush (pc' := 900) (v := nI 8) C dL_law_898 (by decide) rfl ?_
        refine g_iload (pc' := 902) C 16 dL_law_900 rfl rfl ?_
        refine g_imul (pc' := 903) (v := nI (8 * r9)) C dL_law_902 (pk_mul _ _) rfl ?_
        refine g_iload (pc' := 905) C 0 dL_law_903 rfl rfl ?_
        refine g_iadd (pc' := 906) (v := nI ((8 * r9) + k9)) C dL_law_905 (nI_add _ _) rfl ?_
        refine g_ialdN (pc' := 907) C 2 (f := (fl8 iv)) rfl ((8 * r9) + k9) (by first | assumption | omega) (by decide) dL_law_906 rfl ?_
        refine g_val (y := nI (iv r9 k9)) (by rw [fl8_at (by omega)]) ?_
        refine g_if_leN (pc' := 910) (tgt := 914) C (by have h9 := (HK r9 k9).1; omega) dL_law_907 (by decide) rfl (fun c_907_9 => ?_) (fun c_907_9 => ?_)
        · refine g_iconst (pc' := 915) (v := nI 0) C dL_law_914 (by decide) rfl ?_
          refine g_istore (pc' := 917) (lv' := [(22, .int (nI 0)), (21, .int (nI k9)), (19, .int (nI wt)), (20, .int (oI o9)), (11, .int (nI i)), (10, .int (nI dy)), (9, .int (nI ba)), (8, .int (nI len)), (7, .int (nI n)), (6, .int (nI mc)), (5, .ref d0), (4, .ref v0), (3, .ref c0), (2, .ref t0), (1, .ref x0), (0, .ref b), (15, .int (nI 1)), (17, .int (nI r9))]) C dL_law_915 (by decide) rfl rfl ?_
          refine g_iload (pc' := 919) C 2 dL_law_917 rfl rfl ?_
          refine g_iload (pc' := 921) C 0 dL_law_919 rfl rfl ?_
          refine g_if_eqN (pc' := 924) (tgt := 944) C (by first | assumption | omega) dL_law_921 (by decide) rfl (fun _ => ?_) (fun z => absurd z (by decide))
          refine g_iconst (pc' := 945) (v := nI 0) C dL_law_944 (by decide) rfl ?_
          refine g_iadd (pc' := 946) (v := nI (wt + 0)) C dL_law_945 (nI_add _ _) rfl ?_
          refine g_istore (pc' := 948) (lv' := [(19, .int (nI (wt + 0))), (22, .int (nI 0)), (21, .int (nI k9)), (20, .int (oI o9)), (11, .int (nI i)), (10, .int (nI dy)), (9, .int (nI ba)), (8, .int (nI len)), (7, .int (nI n)), (6, .int (nI mc)), (5, .ref d0), (4, .ref v0), (3, .ref c0), (2, .ref t0), (1, .ref x0), (0, .ref b), (15, .int (nI 1)), (17, .int (nI r9))]) C dL_law_946 (by decide) rfl rfl ?_
          refine g_iload (pc' := 950) C 1 dL_law_948 rfl rfl ?_
          refine g_if_eqN (pc' := 953) (tgt := 988) C (by first | assumption | omega) dL_law_950 (by decide) rfl (fun _ => ?_) (fun z => absurd z (by decide))
          refine g_iload (pc' := 990) C 3 dL_law_988 rfl rfl ?_
          refine g_istore (pc' := 992) (lv' := [(20, .int (oI o9)), (19, .int (nI (wt + 0))), (22, .int (nI 0)), (21, .int (nI k9)), (11, .int (nI i)), (10, .int (nI dy)), (9, .int (nI ba)), (8, .int (nI len)), (7, .int (nI n)), (6, .int (nI mc)), (5, .ref d0), (4, .ref v0), (3, .ref c0), (2, .ref t0), (1, .ref x0), (0, .ref b), (15, .int (nI 1)), (17, .int (nI r9))]) C dL_law_990 (by decide) rfl rfl ?_
          refine g_iinc (pc' := 995) (v := nI (k9 + 1)) (lv' := [(21, .int (nI (k9 + 1))), (20, .int (oI o9)), (19, .int (nI (wt + 0))), (22, .int (nI 0)), (11, .int (nI i)), (10, .int (nI dy)), (9, .int (nI ba)), (8, .int (nI len)), (7, .int (nI n)), (6, .int (nI mc)), (5, .ref d0), (4, .ref v0), (3, .ref c0), (2, .ref t0), (1, .ref x0), (0, .ref b), (15, .int (nI 1)), (17, .int (nI r9))]) C 3 dL_law_992 rfl (iincN1 _) (by decide) rfl rfl ?_
          refine g_goto (tgt := 889) C dL_law_995 (by decide) ?_
          refine g_lv (lv' := [(21, .int (nI (k9 + 1))), (19, .int (nI (wt + 0))), (20, .int (oI o9)), (11, .int (nI i)), (10, .int (nI dy)), (9, .int (nI ba)), (8, .int (nI len)), (7, .int (nI n)), (6, .int (nI mc)), (5, .ref d0), (4, .ref v0), (3, .ref c0), (2, .ref t0), (1, .ref x0), (0, .ref b), (15, .int (nI 1)), (17, .int (nI r9))]) [0, 2, 1, 4, 5, 6, 7, 8, 9, 10, 11, 12, 13, 14, 15, 16, 17] rfl ?_
          refine g_widen (k' := 100 + 200 * i + 40) (n' := 2000 + 2000 * i + 400) (by omega) (by omega) ?_
          exact ih_a wl_a (k9 + 1) (wt + 0) o9 HL_a (by first | assumption | omega) (by rw [cntB_f (due_f1 (by omega))]; omega) (by rw [fs_no (by omega)]; exact ho) (by omega)
        · refine g_iconst (pc' := 911) (v := nI 1) C dL_law_910 (by decide) rfl ?_
          refine g_goto (tgt := 915) C dL_law_911 (by decide) ?_
          refine g_istore (pc' := 917) (lv' := [(22, .int (nI 1)), (21, .int (nI k9)), (19, .int (nI wt)), (20, .int (oI o9)), (11, .int (nI i)), (10, .int (nI dy)), (9, .int (nI ba)), (8, .int (nI len)), (7, .int (nI n)), (6, .int (nI mc)), (5, .ref d0), (4, .ref v0), (3, .ref c0), (2, .ref t0), (1, .ref x0), (0, .ref b), (15, .int (nI 1)), (17, .int (nI r9))]) C dL_law_915 (by decide) rfl rfl ?_
          refine g_iload (pc' := 919) C 2 dL_law_917 rfl rfl ?_
          refine g_iload (pc' := 921) C 0 dL_law_919 rfl rfl ?_
          refine g_if_eqN (pc' := 924) (tgt := 944) C (by first | assumption | omega) dL_law_921 (by decide) rfl (fun z => absurd z (by decide)) (fun _ => ?_)
          refine g_aload (pc' := 926) C 10 dL_law_924 rfl rfl ?_
          refine g_bipush (pc' := 928) (v := nI 8) C dL_law_926 (by decide) rfl ?_
          refine g_iload (pc' := 930) C 17 dL_law_928 rfl rfl ?_
          refine g_imul (pc' := 931) (v := nI (8 * r9)) C dL_law_930 (pk_mul _ _) rfl ?_
          refine g_iload (pc' := 933) C 1 dL_law_931 rfl rfl ?_
          refine g_iadd (pc' := 934) (v := nI ((8 * r9) + k9)) C dL_law_933 (nI_add _ _) rfl ?_
          refine g_ialdN (pc' := 935) C 3 (f := (fl8 dv)) rfl ((8 * r9) + k9) (by first | assumption | omega) (by decide) dL_law_934 rfl ?_
          refine g_val (y := nI (dv r9 k9)) (by rw [fl8_at (by omega)]) ?_
          refine g_iload (pc' := 937) C 5 dL_law_935 rfl rfl ?_
          refine g_icmp_gtN (pc' := 940) (tgt := 944) C (by have h9 := (HK r9 k9).2; omega) (by first | assumption | omega) dL_law_937 (by decide) rfl (fun c_937_13 => ?_) (fun c_937_13 => ?_)
          · refine g_iconst (pc' := 945) (v := nI 0) C dL_law_944 (by decide) rfl ?_
            refine g_iadd (pc' := 946) (v := nI (wt + 0)) C dL_law_945 (nI_add _ _) rfl ?_
            refine g_istore (pc' := 948) (lv' := [(19, .int (nI (wt + 0))), (22, .int (nI 1)), (21, .int (nI k9)), (20, .int (oI o9)), (11, .int (nI i)), (10, .int (nI dy)), (9, .int (nI ba)), (8, .int (nI len)), (7, .int (nI n)), (6, .int (nI mc)), (5, .ref d0), (4, .ref v0), (3, .ref c0), (2, .ref t0), (1, .ref x0), (0, .ref b), (15, .int (nI 1)), (17, .int (nI r9))]) C dL_law_946 (by decide) rfl rfl ?_
            refine g_iload (pc' := 950) C 1 dL_law_948 rfl rfl ?_
            refine g_if_eqN (pc' := 953) (tgt := 988) C (by first | assumption | omega) dL_law_950 (by decide) rfl (fun z => absurd z (by decide)) (fun _ => ?_)
            refine g_iload (pc' := 955) C 3 dL_law_953 rfl rfl ?_
            refine g_O (fun oc => ?_) (fun ox oc => ?_)
            · refine g_if_lt (pc' := 958) (tgt := 983) C dL_law_955 (by decide) rfl (fun c_955_15 => ?_) (fun c_955_15 => absurd c_955_15 (by decide))
              refine g_iload (pc' := 985) C 2 dL_law_983 rfl rfl ?_
              refine g_goto (tgt := 990) C dL_law_985 (by decide) ?_
              refine g_istore (pc' := 992) (lv' := [(20, .int (nI k9)), (19, .int (nI (wt + 0))), (22, .int (nI 1)), (21, .int (nI k9)), (11, .int (nI i)), (10, .int (nI dy)), (9, .int (nI ba)), (8, .int (nI len)), (7, .int (nI n)), (6, .int (nI mc)), (5, .ref d0), (4, .ref v0), (3, .ref c0), (2, .ref t0), (1, .ref x0), (0, .ref b), (15, .int (nI 1)), (17, .int (nI r9))]) C dL_law_990 (by decide) rfl rfl ?_
              refine g_iinc (pc' := 995) (v := nI (k9 + 1)) (lv' := [(21, .int (nI (k9 + 1))), (20, .int (nI k9)), (19, .int (nI (wt + 0))), (22, .int (nI 1)), (11, .int (nI i)), (10, .int (nI dy)), (9, .int (nI ba)), (8, .int (nI len)), (7, .int (nI n)), (6, .int (nI mc)), (5, .ref d0), (4, .ref v0), (3, .ref c0), (2, .ref t0), (1, .ref x0), (0, .ref b), (15, .int (nI 1)), (17, .int (nI r9))]) C 3 dL_law_992 rfl (iincN1 _) (by decide) rfl rfl ?_
              refine g_goto (tgt := 889) C dL_law_995 (by decide) ?_
              refine g_lv (lv' := [(21, .int (nI (k9 + 1))), (19, .int (nI (wt + 0))), (20, .int (nI k9)), (11, .int (nI i)), (10, .int (nI dy)), (9, .int (nI ba)), (8, .int (nI len)), (7, .int (nI n)), (6, .int (nI mc)), (5, .ref d0), (4, .ref v0), (3, .ref c0), (2, .ref t0), (1, .ref x0), (0, .ref b), (15, .int (nI 1)), (17, .int (nI r9))]) [0, 2, 1, 4, 5, 6, 7, 8, 9, 10, 11, 12, 13, 14, 15, 16, 17] rfl ?_
              refine g_widen (k' := 100 + 200 * i + 40) (n' := 2000 + 2000 * i + 400) (by omega) (by omega) ?_
              exact ih_a wl_a (k9 + 1) (wt + 0) (some k9) HL_a (by first | assumption | omega) (by rw [cntB_f (due_f2 (by omega))]; omega) (fs_nn (by omega) (ho.trans oc)) (by omega)
            · have hox := fsC_lt (ho.trans oc)
              refine g_if_ltN (pc' := 958) (tgt := 983) C (by first | assumption | omega) dL_law_955 (by decide) rfl ?_
              refine g_aload (pc' := 960) C 10 dL_law_958 rfl rfl ?_
              refine g_bipush (pc' := 962) (v := nI 8) C dL_law_960 (by decide) rfl ?_
              refine g_iload (pc' := 964) C 17 dL_law_962 rfl rfl ?_
              refine g_imul (pc' := 965) (v := nI (8 * r9)) C dL_law_964 (pk_mul _ _) rfl ?_
              refine g_iload (pc' := 967) C 2 dL_law_965 rfl rfl ?_
              refine g_iadd (pc' := 968) (v := nI ((8 * r9) + k9)) C dL_law_967 (nI_add _ _) rfl ?_
              refine g_ialdN (pc' := 969) C 3 (f := (fl8 dv)) rfl ((8 * r9) + k9) (by first | assumption | omega) (by decide) dL_law_968 rfl ?_
              refine g_val (y := nI (dv r9 k9)) (by rw [fl8_at (by omega)]) ?_
              refine g_aload (pc' := 971) C 10 dL_law_969 rfl rfl ?_
              refine g_bipush (pc' := 973) (v := nI 8) C dL_law_971 (by decide) rfl ?_
              refine g_iload (pc' := 975) C 17 dL_law_973 rfl rfl ?_
              refine g_imul (pc' := 976) (v := nI (8 * r9)) C dL_law_975 (pk_mul _ _) rfl ?_
              refine g_iload (pc' := 978) C 3 dL_law_976 rfl rfl ?_
              refine g_val (y := nI ox) (by rw [oc]; rfl) ?_
              refine g_iadd (pc' := 979) (v := nI ((8 * r9) + ox)) C dL_law_978 (nI_add _ _) rfl ?_
              refine g_ialdN (pc' := 980) C 3 (f := (fl8 dv)) rfl ((8 * r9) + ox) (by first | assumption | omega) (by decide) dL_law_979 rfl ?_
              refine g_val (y := nI (dv r9 ox)) (by rw [fl8_at (by omega)]) ?_
              refine g_icmp_geN (pc' := 983) (tgt := 988) C (by have h9 := (HK r9 k9).2; omega) (by have h9 := (HK r9 ox).2; omega) dL_law_980 (by decide) rfl (fun c_980_17 => ?_) (fun c_980_17 => ?_)
              · refine g_iload (pc' := 990) C 3 dL_law_988 rfl rfl ?_
                refine g_val (y := nI ox) (by rw [oc]; rfl) ?_
                refine g_istore (pc' := 992) (lv' := [(20, .int (nI ox)), (19, .int (nI (wt + 0))), (22, .int (nI 1)), (21, .int (nI k9)), (11, .int (nI i)), (10, .int (nI dy)), (9, .int (nI ba)), (8, .int (nI len)), (7, .int (nI n)), (6, .int (nI mc)), (5, .ref d0), (4, .ref v0), (3, .ref c0), (2, .ref t0), (1, .ref x0), (0, .ref b), (15, .int (nI 1)), (17, .int (nI r9))]) C dL_law_990 (by decide) rfl rfl ?_
                refine g_iinc (pc' := 995) (v := nI (k9 + 1)) (lv' := [(21, .int (nI (k9 + 1))), (20, .int (nI ox)), (19, .int (nI (wt + 0))), (22, .int (nI 1)), (11, .int (nI i)), (10, .int (nI dy)), (9, .int (nI ba)), (8, .int (nI len)), (7, .int (nI n)), (6, .int (nI mc)), (5, .ref d0), (4, .ref v0), (3, .ref c0), (2, .ref t0), (1, .ref x0), (0, .ref b), (15, .int (nI 1)), (17, .int (nI r9))]) C 3 dL_law_992 rfl (iincN1 _) (by decide) rfl rfl ?_
                refine g_goto (tgt := 889) C dL_law_995 (by decide) ?_
                refine g_lv (lv' := [(21, .int (nI (k9 + 1))), (19, .int (nI (wt + 0))), (20, .int (nI ox)), (11, .int (nI i)), (10, .int (nI dy)), (9, .int (nI ba)), (8, .int (nI len)), (7, .int (nI n)), (6, .int (nI mc)), (5, .ref d0), (4, .ref v0), (3, .ref c0), (2, .ref t0), (1, .ref x0), (0, .ref b), (15, .int (nI 1)), (17, .int (nI r9))]) [0, 2, 1, 4, 5, 6, 7, 8, 9, 10, 11, 12, 13, 14, 15, 16, 17] rfl ?_
                refine g_widen (k' := 100 + 200 * i + 40) (n' := 2000 + 2000 * i + 400) (by omega) (by omega) ?_
                exact ih_a wl_a (k9 + 1) (wt + 0) (some ox) HL_a (by first | assumption | omega) (by rw [cntB_f (due_f2 (by omega))]; omega) (fs_sn (ho.trans oc) (by omega)) (by omega)
              · refine g_iload (pc' := 985) C 2 dL_law_983 rfl rfl ?_
                refine g_goto (tgt := 990) C dL_law_985 (by decide) ?_
                refine g_istore (pc' := 992) (lv' := [(20, .int (nI k9)), (19, .int (nI (wt + 0))), (22, .int (nI 1)), (21, .int (nI k9)), (11, .int (nI i)), (10, .int (nI dy)), (9, .int (nI ba)), (8, .int (nI len)), (7, .int (nI n)), (6, .int (nI mc)), (5, .ref d0), (4, .ref v0), (3, .ref c0), (2, .ref t0), (1, .ref x0), (0, .ref b), (15, .int (nI 1)), (17, .int (nI r9))]) C dL_law_990 (by decide) rfl rfl ?_
                refine g_iinc (pc' := 995) (v := nI (k9 + 1)) (lv' := [(21, .int (nI (k9 + 1))), (20, .int (nI k9)), (19, .int (nI (wt + 0))), (22, .int (nI 1)), (11, .int (nI i)), (10, .int (nI dy)), (9, .int (nI ba)), (8, .int (nI len)), (7, .int (nI n)), (6, .int (nI mc)), (5, .ref d0), (4, .ref v0), (3, .ref c0), (2, .ref t0), (1, .ref x0), (0, .ref b), (15, .int (nI 1)), (17, .int (nI r9))]) C 3 dL_law_992 rfl (iincN1 _) (by decide) rfl rfl ?_
                refine g_goto (tgt := 889) C dL_law_995 (by decide) ?_
                refine g_lv (lv' := [(21, .int (nI (k9 + 1))), (19, .int (nI (wt + 0))), (20, .int (nI k9)), (11, .int (nI i)), (10, .int (nI dy)), (9, .int (nI ba)), (8, .int (nI len)), (7, .int (nI n)), (6, .int (nI mc)), (5, .ref d0), (4, .ref v0), (3, .ref c0), (2, .ref t0), (1, .ref x0), (0, .ref b), (15, .int (nI 1)), (17, .int (nI r9))]) [0, 2, 1, 4, 5, 6, 7, 8, 9, 10, 11, 12, 13, 14, 15, 16, 17] rfl ?_
                refine g_widen (k' := 100 + 200 * i + 40) (n' := 2000 + 2000 * i + 400) (by omega) (by omega) ?_
                exact ih_a wl_a (k9 + 1) (wt + 0) (some k9) HL_a (by first | assumption | omega) (by rw [cntB_f (due_f2 (by omega))]; omega) (fs_st (by omega) (ho.trans oc) (by omega)) (by omega)
          · refine g_iconst (pc' := 941) (v := nI 1) C dL_law_940 (by decide) rfl ?_
            refine g_goto (tgt := 945) C dL_law_941 (by decide) ?_
            refine g_iadd (pc' := 946) (v := nI (wt + 1)) C dL_law_945 (nI_add _ _) rfl ?_
            refine g_istore (pc' := 948) (lv' := [(19, .int (nI (wt + 1))), (22, .int (nI 1)), (21, .int (nI k9)), (20, .int (oI o9)), (11, .int (nI i)), (10, .int (nI dy)), (9, .int (nI ba)), (8, .int (nI len)), (7, .int (nI n)), (6, .int (nI mc)), (5, .ref d0), (4, .ref v0), (3, .ref c0), (2, .ref t0), (1, .ref x0), (0, .ref b), (15, .int (nI 1)), (17, .int (nI r9))]) C dL_law_946 (by decide) rfl rfl ?_
            refine g_iload (pc' := 950) C 1 dL_law_948 rfl rfl ?_
            refine g_if_eqN (pc' := 953) (tgt := 988) C (by first | assumption | omega) dL_law_950 (by decide) rfl (fun z => absurd z (by decide)) (fun _ => ?_)
            refine g_iload (pc' := 955) C 3 dL_law_953 rfl rfl ?_
            refine g_O (fun oc => ?_) (fun ox oc => ?_)
            · refine g_if_lt (pc' := 958) (tgt := 983) C dL_law_955 (by decide) rfl (fun c_955_19 => ?_) (fun c_955_19 => absurd c_955_19 (by decide))
              refine g_iload (pc' := 985) C 2 dL_law_983 rfl rfl ?_
              refine g_goto (tgt := 990) C dL_law_985 (by decide) ?_
              refine g_istore (pc' := 992) (lv' := [(20, .int (nI k9)), (19, .int (nI (wt + 1))), (22, .int (nI 1)), (21, .int (nI k9)), (11, .int (nI i)), (10, .int (nI dy)), (9, .int (nI ba)), (8, .int (nI len)), (7, .int (nI n)), (6, .int (nI mc)), (5, .ref d0), (4, .ref v0), (3, .ref c0), (2, .ref t0), (1, .ref x0), (0, .ref b), (15, .int (nI 1)), (17, .int (nI r9))]) C dL_law_990 (by decide) rfl rfl ?_
              refine g_iinc (pc' := 995) (v := nI (k9 + 1)) (lv' := [(21, .int (nI (k9 + 1))), (20, .int (nI k9)), (19, .int (nI (wt + 1))), (22, .int (nI 1)), (11, .int (nI i)), (10, .int (nI dy)), (9, .int (nI ba)), (8, .int (nI len)), (7, .int (nI n)), (6, .int (nI mc)), (5, .ref d0), (4, .ref v0), (3, .ref c0), (2, .ref t0), (1, .ref x0), (0, .ref b), (15, .int (nI 1)), (17, .int (nI r9))]) C 3 dL_law_992 rfl (iincN1 _) (by decide) rfl rfl ?_
              refine g_goto (tgt := 889) C dL_law_995 (by decide) ?_
              refine g_lv (lv' := [(21, .int (nI (k9 + 1))), (19, .int (nI (wt + 1))), (20, .int (nI k9)), (11, .int (nI i)), (10, .int (nI dy)), (9, .int (nI ba)), (8, .int (nI len)), (7, .int (nI n)), (6, .int (nI mc)), (5, .ref d0), (4, .ref v0), (3, .ref c0), (2, .ref t0), (1, .ref x0), (0, .ref b), (15, .int (nI 1)), (17, .int (nI r9))]) [0, 2, 1, 4, 5, 6, 7, 8, 9, 10, 11, 12, 13, 14, 15, 16, 17] rfl ?_
              refine g_widen (k' := 100 + 200 * i + 40) (n' := 2000 + 2000 * i + 400) (by omega) (by omega) ?_
              exact ih_a wl_a (k9 + 1) (wt + 1) (some k9) HL_a (by first | assumption | omega) (by rw [cntB_t (due_t (by omega) (by omega))]; omega) (fs_nn (by omega) (ho.trans oc)) (by omega)
            · have hox := fsC_lt (ho.trans oc)
              refine g_if_ltN (pc' := 958) (tgt := 983) C (by first | assumption | omega) dL_law_955 (by decide) rfl ?_
              refine g_aload (pc' := 960) C 10 dL_law_958 rfl rfl ?_
              refine g_bipush (pc' := 962) (v := nI 8) C dL_law_960 (by decide) rfl ?_
              refine g_iload (pc' := 964) C 17 dL_law_962 rfl rfl ?_
              refine g_imul (pc' := 965) (v := nI (8 * r9)) C dL_law_964 (pk_mul _ _) rfl ?_
              refine g_iload (pc' := 967) C 2 dL_law_965 rfl rfl ?_
              refine g_iadd (pc' := 968) (v := nI ((8 * r9) + k9)) C dL_law_967 (nI_add _ _) rfl ?_
              refine g_ialdN (pc' := 969) C 3 (f := (fl8 dv)) rfl ((8 * r9) + k9) (by first | assumption | omega) (by decide) dL_law_968 rfl ?_
              refine g_val (y := nI (dv r9 k9)) (by rw [fl8_at (by omega)]) ?_
              refine g_aload (pc' := 971) C 10 dL_law_969 rfl rfl ?_
              refine g_bipush (pc' := 973) (v := nI 8) C dL_law_971 (by decide) rfl ?_
              refine g_iload (pc' := 975) C 17 dL_law_973 rfl rfl ?_
              refine g_imul (pc' := 976) (v := nI (8 * r9)) C dL_law_975 (pk_mul _ _) rfl ?_
              refine g_iload (pc' := 978) C 3 dL_law_976 rfl rfl ?_
              refine g_val (y := nI ox) (by rw [oc]; rfl) ?_
              refine g_iadd (pc' := 979) (v := nI ((8 * r9) + ox)) C dL_law_978 (nI_add _ _) rfl ?_
              refine g_ialdN (pc' := 980) C 3 (f := (fl8 dv)) rfl ((8 * r9) + ox) (by first | assumption | omega) (by decide) dL_law_979 rfl ?_
              refine g_val (y := nI (dv r9 ox)) (by rw [fl8_at (by omega)]) ?_
              refine g_icmp_geN (pc' := 983) (tgt := 988) C (by have h9 := (HK r9 k9).2; omega) (by have h9 := (HK r9 ox).2; omega) dL_law_980 (by decide) rfl (fun c_980_21 => ?_) (fun c_980_21 => ?_)
              · refine g_iload (pc' := 990) C 3 dL_law_988 rfl rfl ?_
                refine g_val (y := nI ox) (by rw [oc]; rfl) ?_
                refine g_istore (pc' := 992) (lv' := [(20, .int (nI ox)), (19, .int (nI (wt + 1))), (22, .int (nI 1)), (21, .int (nI k9)), (11, .int (nI i)), (10, .int (nI dy)), (9, .int (nI ba)), (8, .int (nI len)), (7, .int (nI n)), (6, .int (nI mc)), (5, .ref d0), (4, .ref v0), (3, .ref c0), (2, .ref t0), (1, .ref x0), (0, .ref b), (15, .int (nI 1)), (17, .int (nI r9))]) C dL_law_990 (by decide) rfl rfl ?_
                refine g_iinc (pc' := 995) (v := nI (k9 + 1)) (lv' := [(21, .int (nI (k9 + 1))), (20, .int (nI ox)), (19, .int (nI (wt + 1))), (22, .int (nI 1)), (11, .int (nI i)), (10, .int (nI dy)), (9, .int (nI ba)), (8, .int (nI len)), (7, .int (nI n)), (6, .int (nI mc)), (5, .ref d0), (4, .ref v0), (3, .ref c0), (2, .ref t0), (1, .ref x0), (0, .ref b), (15, .int (nI 1)), (17, .int (nI r9))]) C 3 dL_law_992 rfl (iincN1 _) (by decide) rfl rfl ?_
                refine g_goto (tgt := 889) C dL_law_995 (by decide) ?_
                refine g_lv (lv' := [(21, .int (nI (k9 + 1))), (19, .int (nI (wt + 1))), (20, .int (nI ox)), (11, .int (nI i)), (10, .int (nI dy)), (9, .int (nI ba)), (8, .int (nI len)), (7, .int (nI n)), (6, .int (nI mc)), (5, .ref d0), (4, .ref v0), (3, .ref c0), (2, .ref t0), (1, .ref x0), (0, .ref b), (15, .int (nI 1)), (17, .int (nI r9))]) [0, 2, 1, 4, 5, 6, 7, 8, 9, 10, 11, 12, 13, 14, 15, 16, 17] rfl ?_
                refine g_widen (k' := 100 + 200 * i + 40) (n' := 2000 + 2000 * i + 400) (by omega) (by omega) ?_
                exact ih_a wl_a (k9 + 1) (wt + 1) (some ox) HL_a (by first | assumption | omega) (by rw [cntB_t (due_t (by omega) (by omega))]; omega) (fs_sn (ho.trans oc) (by omega)) (by omega)
              · refine g_iload (pc' := 985) C 2 dL_law_983 rfl rfl ?_
                refine g_goto (tgt := 990) C dL_law_985 (by decide) ?_
                refine g_istore (pc' := 992) (lv' := [(20, .int (nI k9)), (19, .int (nI (wt + 1))), (22, .int (nI 1)), (21, .int (nI k9)), (11, .int (nI i)), (10, .int (nI dy)), (9, .int (nI ba)), (8, .int (nI len)), (7, .int (nI n)), (6, .int (nI mc)), (5, .ref d0), (4, .ref v0), (3, .ref c0), (2, .ref t0), (1, .ref x0), (0, .ref b), (15, .int (nI 1)), (17, .int (nI r9))]) C dL_law_990 (by decide) rfl rfl ?_
                refine g_iinc (pc' := 995) (v := nI (k9 + 1)) (lv' := [(21, .int (nI (k9 + 1))), (20, .int (nI k9)), (19, .int (nI (wt + 1))), (22, .int (nI 1)), (11, .int (nI i)), (10, .int (nI dy)), (9, .int (nI ba)), (8, .int (nI len)), (7, .int (nI n)), (6, .int (nI mc)), (5, .ref d0), (4, .ref v0), (3, .ref c0), (2, .ref t0), (1, .ref x0), (0, .ref b), (15, .int (nI 1)), (17, .int (nI r9))]) C 3 dL_law_992 rfl (iincN1 _) (by decide) rfl rfl ?_
                refine g_goto (tgt := 889) C dL_law_995 (by decide) ?_
                refine g_lv (lv' := [(21, .int (nI (k9 + 1))), (19, .int (nI (wt + 1))), (20, .int (nI k9)), (11, .int (nI i)), (10, .int (nI dy)), (9, .int (nI ba)), (8, .int (nI len)), (7, .int (nI n)), (6, .int (nI mc)), (5, .ref d0), (4, .ref v0), (3, .ref c0), (2, .ref t0), (1, .ref x0), (0, .ref b), (15, .int (nI 1)), (17, .int (nI r9))]) [0, 2, 1, 4, 5, 6, 7, 8, 9, 10, 11, 12, 13, 14, 15, 16, 17] rfl ?_
                refine g_widen (k' := 100 + 200 * i + 40) (n' := 2000 + 2000 * i + 400) (by omega) (by omega) ?_
                exact ih_a wl_a (k9 + 1) (wt + 1) (some k9) HL_a (by first | assumption | omega) (by rw [cntB_t (due_t (by omega) (by omega))]; omega) (fs_st (by omega) (ho.trans oc) (by omega)) (by omega)
  refine g_lv (lv' := [(21, .int (nI 0)), (19, .int (nI 0)), (20, .int (-1)), (11, .int (nI i)), (10, .int (nI dy)), (9, .int (nI ba)), (8, .int (nI len)), (7, .int (nI n)), (6, .int (nI mc)), (5, .ref d0), (4, .ref v0), (3, .ref c0), (2, .ref t0), (1, .ref x0), (0, .ref b), (15, .int (nI 1)), (17, .int (nI r9))]) [0, 2, 1, 3, 4, 5, 6, 7, 8, 9, 10, 11, 12, 13, 14, 15, 16] rfl ?_
  refine g_widen (k' := 100 + 200 * i + 40) (n' := 2000 + 2000 * i + 400) (by omega) (by omega) ?_
  exact lp_a (mc + 1) wx 0 0 none HX (Nat.zero_le _) rfl rfl (by omega)
end LAW
