section LAW
variable {p : Program} {l : Launch} {e : Env} {s : State} {m : MethodId} {below : List Frame} {meth : Method} {c : Code} {κ : KK} {b L x0 t0 c0 v0 d0 : Nat} {xs : Nat → Int32}
set_option maxHeartbeats 4000000 in
set_option maxRecDepth 100000 in
theorem law_413 (hlc : LC l p s m meth c κ b L xs) (i : Nat) (hi : i < 70) {wx : va_W} {n : Nat} {fk : Nat → Nat} {fs : Nat → Nat} {len : Nat} {fw : Nat → Nat} {dr : Nat → Option Nat} {mc : Nat} {th : Nat → Bool} {rc : Nat → Option Nat} {ck : Nat → Nat} {pm : Nat → Nat} {ep : Nat → Nat → Option Nat} {ba : Nat} {dy : Nat} {iv : Nat → Nat → Nat} {dv : Nat → Nat → Nat} (HRW : RW n fk fs) (HSW : SW len fw) (HDW : DW 0 dr) (HTW : TW mc th rc ck pm ep) (HB : ba ≤ 50) (HK : KW iv dv) (HI : IW iv) (hdy : dy ≤ 100 * i) (HC : CW mc iv) (HX : LX κ x0 n fk fs len fw 0 dr mc th rc ck pm ep ba dy iv dv wx) (KN : NXT p l e s m below meth c κ b x0 t0 c0 v0 d0 i) {w9 : Int32} {h9 e9 r9 : Nat} (hh : h9 < 16) (hr9 : r9 < 3) (he : 0 < mc → e9 < mc) : G p l e room_1 s m #[Value.ref b] below meth c κ 23 (JM (fun q => s.heap.size ≤ q) s) ([(t0, .inl (κ.2 0, 8, .inl (nA (bN th)))), (c0, .inl (κ.2 0, 8, .inl (nA ck))), (v0, .inl (κ.2 0, 24, .inl (nA (fl8 iv)))), (d0, .inl (κ.2 0, 24, .inl (nA (fl8 dv))))] ++ wx) (100 + 200 * i) (2000 + 2000 * i) (lw_Z below #[Value.ref b] s) 413 [(11, .int (nI i)), (10, .int (nI dy)), (9, .int (nI ba)), (8, .int (nI len)), (7, .int (nI n)), (6, .int (nI mc)), (5, .ref d0), (4, .ref v0), (3, .ref c0), (2, .ref t0), (1, .ref x0), (0, .ref b), (13, .int w9), (14, .int (nI h9)), (15, .int (nI 1)), (16, .int (nI e9)), (17, .int (nI r9)), (18, .int (nI (8 * r9 + e9)))] [] := by
  skip
  have hlcQ := hlc
  obtain ⟨C, YY, hX, hbl, hL, hst⟩ := hlcQ
  have hA : ∀ q, s.heap.size ≤ q → (fun q => s.heap.size ≤ q) q := fun _ h => h
  have hbA : ¬ (fun q => s.heap.size ≤ q) b := Nat.not_le.mpr hbl
  have hl6 := HSW.1
  have hm8 := HTW.1
  have hn6 := HRW.1
  refine g_iload (pc' := 415) C 13 dL_law_413 rfl rfl ?_
  refine g_bipush (pc' := 417) (v := nI 9) C dL_law_415 (by decide) rfl ?_
  refine g_icmp_geN (pc' := 420) (tgt := 480) C (by first | assumption | omega) (by first | assumption | omega) dL_law_417 (by decide) rfl (fun c_417_1 => ?_) (fun c_417_1 => ?_)
  · refine g_lv (lv' := [(11, .int (nI i)), (10, .int (nI dy)), (9, .int (nI ba)), (8, .int (nI len)), (7, .int (nI n)), (6, .int (nI mc)), (5, .ref d0), (4, .ref v0), (3, .ref c0), (2, .ref t0), (1, .ref x0), (0, .ref b), (13, .int w9), (14, .int (nI h9)), (15, .int (nI 1)), (16, .int (nI e9)), (17, .int (nI r9)), (18, .int (nI (8 * r9 + e9)))]) [0, 1, 2, 3, 4, 5, 6, 7, 8, 9, 10, 11, 12, 13, 14, 15, 16, 17] rfl ?_
    refine g_widen (k' := 100 + 200 * i) (n' := 2000 + 2000 * i) (by omega) (by omega) ?_
    exact law_480 hlc i hi HRW HSW HDW HTW HB HK HI (by omega) HC HX KN hh hr9 he
  · refine g_iload (pc' := 422) C 3 dL_law_420 rfl rfl ?_
    refine g_bipush (pc' := 424) (v := nI 6) C dL_law_422 (by decide) rfl ?_
    refine g_icmp_neN (pc' := 427) (tgt := 446) C (by first | assumption | omega) (by first | assumption | omega) dL_law_424 (by decide) rfl (fun c_424_2 => ?_) (fun c_424_2 => ?_)
    · refine g_iinc (pc' := 449) (v := nI (len + 1)) (lv' := [(8, .int (nI (len + 1))), (11, .int (nI i)), (10, .int (nI dy)), (9, .int (nI ba)), (7, .int (nI n)), (6, .int (nI mc)), (5, .ref d0), (4, .ref v0), (3, .ref c0), (2, .ref t0), (1, .ref x0), (0, .ref b), (13, .int w9), (14, .int (nI h9)), (15, .int (nI 1)), (16, .int (nI e9)), (17, .int (nI r9)), (18, .int (nI (8 * r9 + e9)))]) C 3 dL_law_446 rfl (iincN1 _) (by decide) rfl rfl ?_
      refine g_iload (pc' := 451) C 14 dL_law_449 rfl rfl ?_
      refine g_if_eqN (pc' := 454) (tgt := 474) C (by first | assumption | omega) dL_law_451 (by decide) rfl (fun z => absurd z (by decide)) (fun _ => ?_)
      refine g_aload_n (pc' := 455) C 10 dL_law_454 rfl rfl rfl ?_
      refine g_iload (pc' := 457) C 12 dL_law_455 rfl rfl ?_
      refine g_bipush (pc' := 459) (v := nI 8) C dL_law_457 (by decide) rfl ?_
      refine g_callPS (pc' := 462) C lk_RL_31 (kL_low l κ w9 8 (by omega) (by omega)) [] rfl rfl (Nat.le_of_ble_eq_true rfl) ⟨(by show 0 + 9 ≤ 2048; decide), (by show 219 + 2 + 40 * (0) ≤ 84000; decide)⟩ ⟨(by show _ ≤ 600104; omega), (by show _ ≤ 7301314; omega)⟩ rfl dL_law_459 rfl (fun r h => ?_)
      obtain ⟨x_459_4, hx_459_4, rfl⟩ := h
      obtain ⟨qx_5, fx_5, hqx_5⟩ := LX.recv HX
      refine g_fQ (pc' := 465) (wr := [(t0, .inl (κ.2 0, 8, .inl (nA (bN th)))), (c0, .inl (κ.2 0, 8, .inl (nA ck))), (v0, .inl (κ.2 0, 24, .inl (nA (fl8 iv)))), (d0, .inl (κ.2 0, 24, .inl (nA (fl8 dv))))]) (wc := wx) C YY hA ml_RL_51 lk_RL_51 (hp_say l hst κ x0 x_459_4 HRW HSW HDW HTW HB HK HI (by omega) HX (by omega) (by omega)) (fun _ h => h) (List.Perm.refl _) qx_5 hqx_5 rfl rfl (Nat.le_of_ble_eq_true rfl) ⟨(by show 1 + 9 ≤ 2048; decide), (by show 219 + 2 + 40 * (1) ≤ 84000; decide)⟩ ⟨(by show _ ≤ 600104; omega), (by show _ ≤ 7301314; omega)⟩ rfl dL_law_462 rfl (fun r_462_5 w_462_5 h_462_5 => ?_)
      obtain ⟨HX_462_5, hr_462_5⟩ := h_462_5
      have er_462_5 : r_462_5 = nI (len + 1) := hr_462_5
      subst er_462_5
      refine g_iload (pc' := 467) C 0 dL_law_465 rfl rfl ?_
      refine g_icmp_neN (pc' := 470) (tgt := 474) C (by first | assumption | omega) (by first | assumption | omega) dL_law_467 (by decide) rfl (fun c_467_6 => absurd c_467_6 (by exact fun q => q rfl)) (fun c_467_6 => ?_)
      refine g_iconst (pc' := 471) (v := nI 1) C dL_law_470 (by decide) rfl ?_
      refine g_goto (tgt := 475) C dL_law_471 (by decide) ?_
      refine g_istore (pc' := 477) (lv' := [(15, .int (nI 1)), (8, .int (nI (len + 1))), (11, .int (nI i)), (10, .int (nI dy)), (9, .int (nI ba)), (7, .int (nI n)), (6, .int (nI mc)), (5, .ref d0), (4, .ref v0), (3, .ref c0), (2, .ref t0), (1, .ref x0), (0, .ref b), (13, .int w9), (14, .int (nI h9)), (16, .int (nI e9)), (17, .int (nI r9)), (18, .int (nI (8 * r9 + e9)))]) C dL_law_475 (by decide) rfl rfl ?_
      refine g_goto (tgt := 880) C dL_law_477 (by decide) ?_
      refine g_lv (lv' := [(11, .int (nI i)), (10, .int (nI dy)), (9, .int (nI ba)), (8, .int (nI (len + 1))), (7, .int (nI n)), (6, .int (nI mc)), (5, .ref d0), (4, .ref v0), (3, .ref c0), (2, .ref t0), (1, .ref x0), (0, .ref b), (15, .int (nI 1)), (17, .int (nI r9))]) [2, 3, 4, 1, 5, 6, 7, 8, 9, 10, 11, 12, 0, 16] rfl ?_
      refine g_widen (k' := 100 + 200 * i + 40) (n' := 2000 + 2000 * i + 400) (by omega) (by omega) ?_
      exact law_880 hlc i hi HRW (SW_say2 HSW (by omega) (by omega)) HDW HTW HB HK HI (by omega) HC HX_462_5 KN hr9
    · refine g_aload_n (pc' := 428) C 10 dL_law_427 rfl rfl rfl ?_
      obtain ⟨qx_7, fx_7, hqx_7⟩ := LX.recv HX
      refine g_fMi (pc' := 431) (wr := [(t0, .inl (κ.2 0, 8, .inl (nA (bN th)))), (c0, .inl (κ.2 0, 8, .inl (nA ck))), (v0, .inl (κ.2 0, 24, .inl (nA (fl8 iv)))), (d0, .inl (κ.2 0, 24, .inl (nA (fl8 dv))))]) (wc := wx) C hA lk_RL_48 (hp_clear l κ x0 HRW HSW HDW HTW HB HK HI (by omega) HX) (List.Perm.refl _) qx_7 hqx_7 rfl rfl (Nat.le_of_ble_eq_true rfl) ⟨(by show 1 + 9 ≤ 2048; decide), (by show 219 + 1 + 40 * (1) ≤ 84000; decide)⟩ ⟨(by show _ ≤ 600104; omega), (by show _ ≤ 7301314; omega)⟩ rfl dL_law_428 rfl (fun r_428_7 w_428_7 h_428_7 => ?_)
      obtain ⟨HX_428_7, hr_428_7⟩ := h_428_7
      have er_428_7 : r_428_7 = nI len := hr_428_7
      subst er_428_7
      refine g_bipush (pc' := 433) (v := nI 6) C dL_law_431 (by decide) rfl ?_
      refine g_icmp_neN (pc' := 436) (tgt := 440) C (by first | assumption | omega) (by first | assumption | omega) dL_law_433 (by decide) rfl (fun c_433_8 => absurd c_433_8 (by omega)) (fun c_433_8 => ?_)
      refine g_iconst (pc' := 437) (v := nI 1) C dL_law_436 (by decide) rfl ?_
      refine g_goto (tgt := 441) C dL_law_437 (by decide) ?_
      refine g_istore (pc' := 443) (lv' := [(15, .int (nI 1)), (11, .int (nI i)), (10, .int (nI dy)), (9, .int (nI ba)), (8, .int (nI len)), (7, .int (nI n)), (6, .int (nI mc)), (5, .ref d0), (4, .ref v0), (3, .ref c0), (2, .ref t0), (1, .ref x0), (0, .ref b), (13, .int w9), (14, .int (nI h9)), (16, .int (nI e9)), (17, .int (nI r9)), (18, .int (nI (8 * r9 + e9)))]) C dL_law_441 (by decide) rfl rfl ?_
      refine g_iconst (pc' := 444) (v := nI 0) C dL_law_443 (by decide) rfl ?_
      refine g_istore (pc' := 446) (lv' := [(8, .int (nI 0)), (15, .int (nI 1)), (11, .int (nI i)), (10, .int (nI dy)), (9, .int (nI ba)), (7, .int (nI n)), (6, .int (nI mc)), (5, .ref d0), (4, .ref v0), (3, .ref c0), (2, .ref t0), (1, .ref x0), (0, .ref b), (13, .int w9), (14, .int (nI h9)), (16, .int (nI e9)), (17, .int (nI r9)), (18, .int (nI (8 * r9 + e9)))]) C dL_law_444 (by decide) rfl rfl ?_
      refine g_iinc (pc' := 449) (v := nI 1) (lv' := [(8, .int (nI 1)), (15, .int (nI 1)), (11, .int (nI i)), (10, .int (nI dy)), (9, .int (nI ba)), (7, .int (nI n)), (6, .int (nI mc)), (5, .ref d0), (4, .ref v0), (3, .ref c0), (2, .ref t0), (1, .ref x0), (0, .ref b), (13, .int w9), (14, .int (nI h9)), (16, .int (nI e9)), (17, .int (nI r9)), (18, .int (nI (8 * r9 + e9)))]) C 0 dL_law_446 rfl (by decide) (by decide) rfl rfl ?_
      refine g_iload (pc' := 451) C 1 dL_law_449 rfl rfl ?_
      refine g_if_eqN (pc' := 454) (tgt := 474) C (by first | assumption | omega) dL_law_451 (by decide) rfl (fun z => absurd z (by decide)) (fun _ => ?_)
      refine g_aload_n (pc' := 455) C 11 dL_law_454 rfl rfl rfl ?_
      refine g_iload (pc' := 457) C 13 dL_law_455 rfl rfl ?_
      refine g_bipush (pc' := 459) (v := nI 8) C dL_law_457 (by decide) rfl ?_
      refine g_callPS (pc' := 462) C lk_RL_31 (kL_low l κ w9 8 (by omega) (by omega)) [] rfl rfl (Nat.le_of_ble_eq_true rfl) ⟨(by show 0 + 9 ≤ 2048; decide), (by show 219 + 2 + 40 * (0) ≤ 84000; decide)⟩ ⟨(by show _ ≤ 600104; omega), (by show _ ≤ 7301314; omega)⟩ rfl dL_law_459 rfl (fun r h => ?_)
      obtain ⟨x_459_10, hx_459_10, rfl⟩ := h
      obtain ⟨qx_11, fx_11, hqx_11⟩ := LX.recv HX_428_7
      refine g_fQ (pc' := 465) (wr := [(t0, .inl (κ.2 0, 8, .inl (nA (bN th)))), (c0, .inl (κ.2 0, 8, .inl (nA ck))), (v0, .inl (κ.2 0, 24, .inl (nA (fl8 iv)))), (d0, .inl (κ.2 0, 24, .inl (nA (fl8 dv))))]) (wc := w_428_7) C YY hA ml_RL_51 lk_RL_51 (hp_say l hst κ x0 x_459_10 HRW (SW_0 HSW) HDW HTW HB HK HI (by omega) HX_428_7 (by omega) (by omega)) (fun _ h => h) (List.Perm.refl _) qx_11 hqx_11 rfl rfl (Nat.le_of_ble_eq_true rfl) ⟨(by show 1 + 9 ≤ 2048; decide), (by show 219 + 2 + 40 * (1) ≤ 84000; decide)⟩ ⟨(by show _ ≤ 600104; omega), (by show _ ≤ 7301314; omega)⟩ rfl dL_law_462 rfl (fun r_462_11 w_462_11 h_462_11 => ?_)
      obtain ⟨HX_462_11, hr_462_11⟩ := h_462_11
      have er_462_11 : r_462_11 = nI 1 := hr_462_11
      subst er_462_11
      refine g_iload (pc' := 467) C 0 dL_law_465 rfl rfl ?_
      refine g_icmp_neN (pc' := 470) (tgt := 474) C (by first | assumption | omega) (by first | assumption | omega) dL_law_467 (by decide) rfl (fun z => absurd z (by decide)) (fun _ => ?_)
      refine g_iconst (pc' := 471) (v := nI 1) C dL_law_470 (by decide) rfl ?_
      refine g_goto (tgt := 475) C dL_law_471 (by decide) ?_
      refine g_istore (pc' := 477) (lv' := [(15, .int (nI 1)), (8, .int (nI 1)), (11, .int (nI i)), (10, .int (nI dy)), (9, .int (nI ba)), (7, .int (nI n)), (6, .int (nI mc)), (5, .ref d0), (4, .ref v0), (3, .ref c0), (2, .ref t0), (1, .ref x0), (0, .ref b), (13, .int w9), (14, .int (nI h9)), (16, .int (nI e9)), (17, .int (nI r9)), (18, .int (nI (8 * r9 + e9)))]) C dL_law_475 (by decide) rfl rfl ?_
      refine g_goto (tgt := 880) C dL_law_477 (by decide) ?_
      refine g_lv (lv' := [(11, .int (nI i)), (10, .int (nI dy)), (9, .int (nI ba)), (8, .int (nI 1)), (7, .int (nI n)), (6, .int (nI mc)), (5, .ref d0), (4, .ref v0), (3, .ref c0), (2, .ref t0), (1, .ref x0), (0, .ref b), (15, .int (nI 1)), (17, .int (nI r9))]) [2, 3, 4, 1, 5, 6, 7, 8, 9, 10, 11, 12, 0, 16] rfl ?_
      refine g_widen (k' := 100 + 200 * i + 40) (n' := 2000 + 2000 * i + 400) (by omega) (by omega) ?_
      exact law_880 hlc i hi HRW (SW_say2 (SW_0 HSW) (by omega) (by omega)) HDW HTW HB HK HI (by omega) HC HX_462_11 KN hr9
set_option maxHeartbeats 4000000 in
set_option maxRecDepth 100000 in
theorem law_179 (hlc : LC l p s m meth c κ b L xs) (i : Nat) (hi : i < 70) {wx : va_W} {n : Nat} {fk : Nat → Nat} {fs : Nat → Nat} {len : Nat} {fw : Nat → Nat} {dr : Nat → Option Nat} {mc : Nat} {th : Nat → Bool} {rc : Nat → Option Nat} {ck : Nat → Nat} {pm : Nat → Nat} {ep : Nat → Nat → Option Nat} {ba : Nat} {dy : Nat} {iv : Nat → Nat → Nat} {dv : Nat → Nat → Nat} (HRW : RW n fk fs) (HSW : SW len fw) (HDW : DW 0 dr) (HTW : TW mc th rc ck pm ep) (HB : ba ≤ 50) (HK : KW iv dv) (HI : IW iv) (hdy : dy ≤ 100 * i) (HC : CW mc iv) (HX : LX κ x0 n fk fs len fw 0 dr mc th rc ck pm ep ba dy iv dv wx) (KN : NXT p l e s m below meth c κ b x0 t0 c0 v0 d0 i) {w9 : Int32} {h9 e9 r9 : Nat} (hh : h9 < 16) (hr9 : r9 < 3) (he : 0 < mc → e9 < mc) : G p l e room_1 s m #[Value.ref b] below meth c κ 23 (JM (fun q => s.heap.size ≤ q) s) ([(t0, .inl (κ.2 0, 8, .inl (nA (bN th)))), (c0, .inl (κ.2 0, 8, .inl (nA ck))), (v0, .inl (κ.2 0, 24, .inl (nA (fl8 iv)))), (d0, .inl (κ.2 0, 24, .inl (nA (fl8 dv))))] ++ wx) (100 + 200 * i) (2000 + 2000 * i) (lw_Z below #[Value.ref b] s) 179 [(11, .int (nI i)), (10, .int (nI dy)), (9, .int (nI ba)), (8, .int (nI len)), (7, .int (nI n)), (6, .int (nI mc)), (5, .ref d0), (4, .ref v0), (3, .ref c0), (2, .ref t0), (1, .ref x0), (0, .ref b), (13, .int w9), (14, .int (nI h9)), (15, .int (nI 1)), (16, .int (nI e9)), (17, .int (nI r9)), (18, .int (nI (8 * r9 + e9)))] [] := by
  skip
  have hlcQ := hlc
  obtain ⟨C, YY, hX, hbl, hL, hst⟩ := hlcQ
  have hA : ∀ q, s.heap.size ≤ q → (fun q => s.heap.size ≤ q) q := fun _ h => h
  have hbA : ¬ (fun q => s.heap.size ≤ q) b := Nat.not_le.mpr hbl
  have hl6 := HSW.1
  have hm8 := HTW.1
  have hn6 := HRW.1
  refine g_iload (pc' := 181) C 13 dL_law_179 rfl rfl ?_
  refine g_iconst (pc' := 182) (v := nI 5) C dL_law_181 (by decide) rfl ?_
  refine g_icmp_geN (pc' := 185) (tgt := 413) C (by first | assumption | omega) (by first | assumption | omega) dL_law_182 (by decide) rfl (fun c_182_1 => ?_) (fun c_182_1 => ?_)
  · refine g_lv (lv' := [(11, .int (nI i)), (10, .int (nI dy)), (9, .int (nI ba)), (8, .int (nI len)), (7, .int (nI n)), (6, .int (nI mc)), (5, .ref d0), (4, .ref v0), (3, .ref c0), (2, .ref t0), (1, .ref x0), (0, .ref b), (13, .int w9), (14, .int (nI h9)), (15, .int (nI 1)), (16, .int (nI e9)), (17, .int (nI r9)), (18, .int (nI (8 * r9 + e9)))]) [0, 1, 2, 3, 4, 5, 6, 7, 8, 9, 10, 11, 12, 13, 14, 15, 16, 17] rfl ?_
    refine g_widen (k' := 100 + 200 * i) (n' := 2000 + 2000 * i) (by omega) (by omega) ?_
    exact law_413 hlc i hi HRW HSW HDW HTW HB HK HI (by omega) HC HX KN hh hr9 he
  · refine g_iload (pc' := 187) C 5 dL_law_185 rfl rfl ?_
    refine g_bipush (pc' := 189) (v := nI 8) C dL_law_187 (by decide) rfl ?_
    refine g_icmp_geN (pc' := 192) (tgt := 413) C (by first | assumption | omega) (by first | assumption | omega) dL_law_189 (by decide) rfl (fun c_189_2 => ?_) (fun c_189_2 => ?_)
    · refine g_lv (lv' := [(11, .int (nI i)), (10, .int (nI dy)), (9, .int (nI ba)), (8, .int (nI len)), (7, .int (nI n)), (6, .int (nI mc)), (5, .ref d0), (4, .ref v0), (3, .ref c0), (2, .ref t0), (1, .ref x0), (0, .ref b), (13, .int w9), (14, .int (nI h9)), (15, .int (nI 1)), (16, .int (nI e9)), (17, .int (nI r9)), (18, .int (nI (8 * r9 + e9)))]) [0, 1, 2, 3, 4, 5, 6, 7, 8, 9, 10, 11, 12, 13, 14, 15, 16, 17] rfl ?_
      refine g_widen (k' := 100 + 200 * i) (n' := 2000 + 2000 * i) (by omega) (by omega) ?_
      exact law_413 hlc i hi HRW HSW HDW HTW HB HK HI (by omega) HC HX KN hh hr9 he
    · refine g_aload_n (pc' := 193) C 8 dL_law_192 rfl rfl rfl ?_
      refine g_iload (pc' := 195) C 5 dL_law_193 rfl rfl ?_
      refine g_iconst (pc' := 196) (v := nI 1) C dL_law_195 (by decide) rfl ?_
      refine g_iload (pc' := 198) C 12 dL_law_196 rfl rfl ?_
      refine g_bipush (pc' := 200) (v := nI 20) C dL_law_198 (by decide) rfl ?_
      refine g_callPS (pc' := 203) C lk_RL_31 (kL_low l κ w9 20 (by omega) (by omega)) [] rfl rfl (Nat.le_of_ble_eq_true rfl) ⟨(by show 0 + 9 ≤ 2048; decide), (by show 219 + 2 + 40 * (0) ≤ 84000; decide)⟩ ⟨(by show _ ≤ 600104; omega), (by show _ ≤ 7301314; omega)⟩ rfl dL_law_200 rfl (fun r h => ?_)
      obtain ⟨x_200_3, hx_200_3, rfl⟩ := h
      refine g_iadd (pc' := 204) (v := nI (1 + x_200_3)) C dL_law_203 (nI_add _ _) rfl ?_
      refine g_iastN (pc' := 205) (ws' := ([(t0, .inl (κ.2 0, 8, .inl (nA (bN th)))), (c0, .inl (κ.2 0, 8, .inl (nA (va_up ck mc (1 + x_200_3))))), (v0, .inl (κ.2 0, 24, .inl (nA (fl8 iv)))), (d0, .inl (κ.2 0, 24, .inl (nA (fl8 dv))))] ++ wx)) C 1 rfl mc (by first | assumption | omega) (by decide) rfl dL_law_204 rfl ?_
      refine g_aload_n (pc' := 206) C 9 dL_law_205 rfl rfl rfl ?_
      refine g_iload (pc' := 208) C 5 dL_law_206 rfl rfl ?_
      refine g_iconst (pc' := 209) (v := nI 1) C dL_law_208 (by decide) rfl ?_
      refine g_iastN (pc' := 210) (ws' := ([(t0, .inl (κ.2 0, 8, .inl (nA (va_up (bN th) mc 1)))), (c0, .inl (κ.2 0, 8, .inl (nA (va_up ck mc (1 + x_200_3))))), (v0, .inl (κ.2 0, 24, .inl (nA (fl8 iv)))), (d0, .inl (κ.2 0, 24, .inl (nA (fl8 dv))))] ++ wx)) C 0 rfl mc (by first | assumption | omega) (by decide) rfl dL_law_209 rfl ?_
      refine g_iload (pc' := 212) C 12 dL_law_210 rfl rfl ?_
      refine g_iconst (pc' := 213) (v := nI 5) C dL_law_212 (by decide) rfl ?_
      refine g_ishr (pc' := 214) (v := w9 >>> ((nI 5) &&& 31)) C dL_law_213 rfl rfl ?_
      refine g_iconst (pc' := 215) (v := nI 2) C dL_law_214 (by decide) rfl ?_
      refine g_callPS (pc' := 218) C lk_RL_31 (kL_low l κ (w9 >>> ((nI 5) &&& 31)) 2 (by omega) (by omega)) [] rfl rfl (Nat.le_of_ble_eq_true rfl) ⟨(by show 0 + 9 ≤ 2048; decide), (by show 219 + 2 + 40 * (0) ≤ 84000; decide)⟩ ⟨(by show _ ≤ 600104; omega), (by show _ ≤ 7301314; omega)⟩ rfl dL_law_215 rfl (fun r h => ?_)
      obtain ⟨x_215_4, hx_215_4, rfl⟩ := h
      refine g_if_neN (pc' := 221) (tgt := 273) C (by first | assumption | omega) dL_law_218 (by decide) rfl (fun c_218_5 => ?_) (fun c_218_5 => ?_)
      · refine g_iconst (pc' := 274) (v := nI 1) C dL_law_273 (by decide) rfl ?_
        refine g_iload (pc' := 276) C 12 dL_law_274 rfl rfl ?_
        refine g_bipush (pc' := 278) (v := nI 6) C dL_law_276 (by decide) rfl ?_
        refine g_ishr (pc' := 279) (v := w9 >>> ((nI 6) &&& 31)) C dL_law_278 rfl rfl ?_
        refine g_iconst (pc' := 280) (v := nI 3) C dL_law_279 (by decide) rfl ?_
        refine g_callPS (pc' := 283) C lk_RL_31 (kL_low l κ (w9 >>> ((nI 6) &&& 31)) 3 (by omega) (by omega)) [] rfl rfl (Nat.le_of_ble_eq_true rfl) ⟨(by show 0 + 9 ≤ 2048; decide), (by show 219 + 2 + 40 * (0) ≤ 84000; decide)⟩ ⟨(by show _ ≤ 600104; omega), (by show _ ≤ 7301314; omega)⟩ rfl dL_law_280 rfl (fun r h => ?_)
        obtain ⟨x_280_6, hx_280_6, rfl⟩ := h
        refine g_iadd (pc' := 284) (v := nI (1 + x_280_6)) C dL_law_283 (nI_add _ _) rfl ?_
        refine g_istore (pc' := 286) (lv' := [(19, .int (nI (1 + x_280_6))), (11, .int (nI i)), (10, .int (nI dy)), (9, .int (nI ba)), (8, .int (nI len)), (7, .int (nI n)), (6, .int (nI mc)), (5, .ref d0), (4, .ref v0), (3, .ref c0), (2, .ref t0), (1, .ref x0), (0, .ref b), (13, .int w9), (14, .int (nI h9)), (15, .int (nI 1)), (16, .int (nI e9)), (17, .int (nI r9)), (18, .int (nI (8 * r9 + e9)))]) C dL_law_284 (by decide) rfl rfl ?_
        refine g_iconst (pc' := 287) (v := nI 0) C dL_law_286 (by decide) rfl ?_
        refine g_istore (pc' := 289) (lv' := [(20, .int (nI 0)), (19, .int (nI (1 + x_280_6))), (11, .int (nI i)), (10, .int (nI dy)), (9, .int (nI ba)), (8, .int (nI len)), (7, .int (nI n)), (6, .int (nI mc)), (5, .ref d0), (4, .ref v0), (3, .ref c0), (2, .ref t0), (1, .ref x0), (0, .ref b), (13, .int w9), (14, .int (nI h9)), (15, .int (nI 1)), (16, .int (nI e9)), (17, .int (nI r9)), (18, .int (nI (8 * r9 + e9)))]) C dL_law_287 (by decide) rfl rfl ?_
        have lp_a : ∀ (fu_a : Nat) (wl_a : va_W) (k9 : Nat) (dr9 : Nat → Option Nat), (LX κ x0 n fk fs len fw k9 dr9 mc th rc ck pm ep ba dy iv dv wl_a) → (k9 ≤ 1 + x_280_6) → (DW k9 dr9) → (0 < k9 → k9 = 1 + x_280_6 → dr9 (k9 - 1) ≠ none) → (4 - k9) < fu_a → G p l e room_1 s m #[Value.ref b] below meth c κ 23 (JM (fun q => s.heap.size ≤ q) s) ([(t0, .inl (κ.2 0, 8, .inl (nA (va_up (bN th) mc 1)))), (c0, .inl (κ.2 0, 8, .inl (nA (va_up ck mc (1 + x_200_3))))), (v0, .inl (κ.2 0, 24, .inl (nA (fl8 iv)))), (d0, .inl (κ.2 0, 24, .inl (nA (fl8 dv))))] ++ wl_a) (100 + 200 * i + 2 * k9) (2000 + 2000 * i + 12 * k9) (lw_Z below #[Value.ref b] s) 289 [(20, .int (nI k9)), (19, .int (nI (1 + x_280_6))), (11, .int (nI i)), (10, .int (nI dy)), (9, .int (nI ba)), (8, .int (nI len)), (7, .int (nI n)), (6, .int (nI mc)), (5, .ref d0), (4, .ref v0), (3, .ref c0), (2, .ref t0), (1, .ref x0), (0, .ref b), (13, .int w9), (14, .int (nI h9)), (15, .int (nI 1)), (16, .int (nI e9)), (17, .int (nI r9)), (18, .int (nI (8 * r9 + e9)))] [] := by
          intro fu_a
          induction fu_a with
          | zero => intro wl_a k9 dr9 HL_a hk9 HD9 hla hmu; exact absurd hmu (Nat.not_lt_zero _)
          | succ fu_a ih_a =>
            intro wl_a k9 dr9 HL_a hk9 HD9 hla hmu_a
            refine g_iload (pc' := 291) C 0 dL_law_289 rfl rfl ?_
            refine g_iload (pc' := 293) C 1 dL_law_291 rfl rfl ?_
            refine g_icmp_geN (pc' := 296) (tgt := 382) C (by first | assumption | omega) (by first | assumption | omega) dL_law_293 (by decide) rfl (fun c_293_7 => ?_) (fun c_293_7 => ?_)
            · refine g_iload (pc' := 384) C 16 dL_law_382 rfl rfl ?_
              refine g_if_eqN (pc' := 387) (tgt := 404) C (by first | assumption | omega) dL_law_384 (by decide) rfl (fun z => absurd z (by decide)) (fun _ => ?_)
              refine g_aload_n (pc' := 388) C 12 dL_law_387 rfl rfl rfl ?_
              refine g_aload_n (pc' := 389) C 10 dL_law_388 rfl rfl rfl ?_
              refine g_iload (pc' := 391) C 7 dL_law_389 rfl rfl ?_
              refine g_ialdN (pc' := 392) C 1 (f := (va_up ck mc (1 + x_200_3))) rfl mc (by first | assumption | omega) (by decide) dL_law_391 rfl ?_
              refine g_val (y := nI (1 + x_200_3)) (by rw [va_up_self]) ?_
              obtain ⟨qx_9, fx_9, hqx_9⟩ := LX.recv HL_a
              refine g_fQ (pc' := 395) (wr := [(t0, .inl (κ.2 0, 8, .inl (nA (va_up (bN th) mc 1)))), (c0, .inl (κ.2 0, 8, .inl (nA (va_up ck mc (1 + x_200_3))))), (v0, .inl (κ.2 0, 24, .inl (nA (fl8 iv)))), (d0, .inl (κ.2 0, 24, .inl (nA (fl8 dv))))]) (wc := wl_a) C YY hA ml_RL_45 lk_RL_45 (hp_addPhrase l hst κ x0 (1 + x_200_3) HRW HSW HD9 HTW HB HK HI (by omega) HL_a ⟨by omega, by omega⟩ (by omega) (hla (by omega) (by omega)) (by omega)) (fun _ h => h) (List.Perm.refl _) qx_9 hqx_9 rfl rfl (Nat.le_of_ble_eq_true rfl) ⟨(by show 2 + 9 ≤ 2048; decide), (by show 219 + 3 + 40 * (2) ≤ 84000; decide)⟩ ⟨(by show _ ≤ 600104; omega), (by show _ ≤ 7301314; omega)⟩ rfl dL_law_392 rfl (fun r_392_9 w_392_9 h_392_9 => ?_)
              obtain ⟨HX_392_9, hr_392_9⟩ := h_392_9
              have er_392_9 : r_392_9 = nI mc := hr_392_9
              subst er_392_9
              refine g_w (ws' := ([(t0, .inl (κ.2 0, 8, .inl (nA (bN (va_up th mc true))))), (c0, .inl (κ.2 0, 8, .inl (nA (va_up ck mc (1 + x_200_3))))), (v0, .inl (κ.2 0, 24, .inl (nA (fl8 iv)))), (d0, .inl (κ.2 0, 24, .inl (nA (fl8 dv))))] ++ w_392_9)) (by rw [bN_up]) ?_
              refine g_iload (pc' := 397) C 7 dL_law_395 rfl rfl ?_
              refine g_icmp_neN (pc' := 400) (tgt := 404) C (by first | assumption | omega) (by first | assumption | omega) dL_law_397 (by decide) rfl (fun c_397_10 => absurd c_397_10 (by exact fun q => q rfl)) (fun c_397_10 => ?_)
              refine g_iconst (pc' := 401) (v := nI 1) C dL_law_400 (by decide) rfl ?_
              refine g_goto (tgt := 405) C dL_law_401 (by decide) ?_
              refine g_istore (pc' := 407) (lv' := [(15, .int (nI 1)), (20, .int (nI k9)), (19, .int (nI (1 + x_280_6))), (11, .int (nI i)), (10, .int (nI dy)), (9, .int (nI ba)), (8, .int (nI len)), (7, .int (nI n)), (6, .int (nI mc)), (5, .ref d0), (4, .ref v0), (3, .ref c0), (2, .ref t0), (1, .ref x0), (0, .ref b), (13, .int w9), (14, .int (nI h9)), (16, .int (nI e9)), (17, .int (nI r9)), (18, .int (nI (8 * r9 + e9)))]) C dL_law_405 (by decide) rfl rfl ?_
              refine g_iinc (pc' := 410) (v := nI (mc + 1)) (lv' := [(6, .int (nI (mc + 1))), (15, .int (nI 1)), (20, .int (nI k9)), (19, .int (nI (1 + x_280_6))), (11, .int (nI i)), (10, .int (nI dy)), (9, .int (nI ba)), (8, .int (nI len)), (7, .int (nI n)), (5, .ref d0), (4, .ref v0), (3, .ref c0), (2, .ref t0), (1, .ref x0), (0, .ref b), (13, .int w9), (14, .int (nI h9)), (16, .int (nI e9)), (17, .int (nI r9)), (18, .int (nI (8 * r9 + e9)))]) C 8 dL_law_407 rfl (iincN1 _) (by decide) rfl rfl ?_
              refine g_goto (tgt := 880) C dL_law_410 (by decide) ?_
              refine g_lv (lv' := [(11, .int (nI i)), (10, .int (nI dy)), (9, .int (nI ba)), (8, .int (nI len)), (7, .int (nI n)), (6, .int (nI (mc + 1))), (5, .ref d0), (4, .ref v0), (3, .ref c0), (2, .ref t0), (1, .ref x0), (0, .ref b), (15, .int (nI 1)), (17, .int (nI r9))]) [4, 5, 6, 7, 8, 0, 9, 10, 11, 12, 13, 14, 1, 18] rfl ?_
              refine g_widen (k' := 100 + 200 * i + 40) (n' := 2000 + 2000 * i + 400) (by omega) (by omega) ?_
              exact law_880 hlc i hi HRW HSW (DW_0 HD9) (TW_ph2 HTW HD9 (by omega) (by omega) (hla (by omega) (by omega)) (by omega)) HB HK HI (by omega) (CW_s HC) HX_392_9 KN hr9
            · refine g_iload (pc' := 298) C 0 dL_law_296 rfl rfl ?_
              refine g_if_leN (pc' := 301) (tgt := 326) C (by first | assumption | omega) dL_law_298 (by decide) rfl (fun c_298_11 => ?_) (fun c_298_11 => ?_)
              · refine g_iconst (pc' := 327) (v := nI 0) C dL_law_326 (by decide) rfl ?_
                refine g_istore (pc' := 329) (lv' := [(21, .int (nI 0)), (20, .int (nI k9)), (19, .int (nI (1 + x_280_6))), (11, .int (nI i)), (10, .int (nI dy)), (9, .int (nI ba)), (8, .int (nI len)), (7, .int (nI n)), (6, .int (nI mc)), (5, .ref d0), (4, .ref v0), (3, .ref c0), (2, .ref t0), (1, .ref x0), (0, .ref b), (13, .int w9), (14, .int (nI h9)), (15, .int (nI 1)), (16, .int (nI e9)), (17, .int (nI r9)), (18, .int (nI (8 * r9 + e9)))]) C dL_law_327 (by decide) rfl rfl ?_
                refine g_iload (pc' := 331) C 17 dL_law_329 rfl rfl ?_
                refine g_if_eqN (pc' := 334) (tgt := 373) C (by first | assumption | omega) dL_law_331 (by decide) rfl (fun z => absurd z (by decide)) (fun _ => ?_)
                refine g_aload_n (pc' := 335) C 13 dL_law_334 rfl rfl rfl ?_
                refine g_iload (pc' := 337) C 0 dL_law_335 rfl rfl ?_
                refine g_if_eqN (pc' := 340) (tgt := 344) C (by first | assumption | omega) dL_law_337 (by decide) rfl (fun _ => ?_) (fun z => absurd z (by decide))
                refine g_iload (pc' := 346) C 15 dL_law_344 rfl rfl ?_
                refine g_bipush (pc' := 348) (v := nI 9) C dL_law_346 (by decide) rfl ?_
                refine g_iconst (pc' := 349) (v := nI 3) C dL_law_348 (by decide) rfl ?_
                refine g_iload (pc' := 351) C 1 dL_law_349 rfl rfl ?_
                refine g_imul (pc' := 352) (v := nI (3 * k9)) C dL_law_351 (pk_mul _ _) rfl ?_
                refine g_iadd (pc' := 353) (v := nI (9 + (3 * k9))) C dL_law_352 (nI_add _ _) rfl ?_
                refine g_ishr (pc' := 354) (v := w9 >>> ((nI (9 + (3 * k9))) &&& 31)) C dL_law_353 rfl rfl ?_
                refine g_bipush (pc' := 356) (v := nI 6) C dL_law_354 (by decide) rfl ?_
                refine g_callPS (pc' := 359) C lk_RL_31 (kL_low l κ (w9 >>> ((nI (9 + (3 * k9))) &&& 31)) 6 (by omega) (by omega)) [] rfl rfl (Nat.le_of_ble_eq_true rfl) ⟨(by show 0 + 9 ≤ 2048; decide), (by show 219 + 2 + 40 * (0) ≤ 84000; decide)⟩ ⟨(by show _ ≤ 600104; omega), (by show _ ≤ 7301314; omega)⟩ rfl dL_law_356 rfl (fun r h => ?_)
                obtain ⟨x_356_14, hx_356_14, rfl⟩ := h
                obtain ⟨qx_15, fx_15, hqx_15⟩ := LX.recv HL_a
                refine g_fQ (pc' := 362) (wr := [(t0, .inl (κ.2 0, 8, .inl (nA (va_up (bN th) mc 1)))), (c0, .inl (κ.2 0, 8, .inl (nA (va_up ck mc (1 + x_200_3))))), (v0, .inl (κ.2 0, 24, .inl (nA (fl8 iv)))), (d0, .inl (κ.2 0, 24, .inl (nA (fl8 dv))))]) (wc := wl_a) C YY hA ml_RL_42 lk_RL_42 (hp_part l hst κ x0 (nI x_356_14) HRW HSW HD9 HTW HB HK HI (by omega) HL_a (cq_part (by omega) (by omega))) (fun _ h => h) (List.Perm.refl _) qx_15 hqx_15 rfl rfl (Nat.le_of_ble_eq_true rfl) ⟨(by show 1 + 9 ≤ 2048; decide), (by show 219 + 2 + 40 * (1) ≤ 84000; decide)⟩ ⟨(by show _ ≤ 600104; omega), (by show _ ≤ 7301314; omega)⟩ rfl dL_law_359 rfl (fun r_359_15 w_359_15 h_359_15 => ?_)
                obtain ⟨HX_359_15, hr_359_15⟩ := h_359_15
                have er_359_15 : r_359_15 = nI (k9 + 1) := hr_359_15
                subst er_359_15
                refine g_iload (pc' := 364) C 1 dL_law_362 rfl rfl ?_
                refine g_iconst (pc' := 365) (v := nI 1) C dL_law_364 (by decide) rfl ?_
                refine g_iadd (pc' := 366) (v := nI (k9 + 1)) C dL_law_365 (nI_add _ _) rfl ?_
                refine g_icmp_neN (pc' := 369) (tgt := 373) C (by first | assumption | omega) (by first | assumption | omega) dL_law_366 (by decide) rfl (fun c_366_16 => absurd c_366_16 (by exact fun q => q rfl)) (fun c_366_16 => ?_)
                refine g_iconst (pc' := 370) (v := nI 1) C dL_law_369 (by decide) rfl ?_
                refine g_goto (tgt := 374) C dL_law_370 (by decide) ?_
                refine g_istore (pc' := 376) (lv' := [(15, .int (nI 1)), (21, .int (nI 0)), (20, .int (nI k9)), (19, .int (nI (1 + x_280_6))), (11, .int (nI i)), (10, .int (nI dy)), (9, .int (nI ba)), (8, .int (nI len)), (7, .int (nI n)), (6, .int (nI mc)), (5, .ref d0), (4, .ref v0), (3, .ref c0), (2, .ref t0), (1, .ref x0), (0, .ref b), (13, .int w9), (14, .int (nI h9)), (16, .int (nI e9)), (17, .int (nI r9)), (18, .int (nI (8 * r9 + e9)))]) C dL_law_374 (by decide) rfl rfl ?_
                refine g_iinc (pc' := 379) (v := nI (k9 + 1)) (lv' := [(20, .int (nI (k9 + 1))), (15, .int (nI 1)), (21, .int (nI 0)), (19, .int (nI (1 + x_280_6))), (11, .int (nI i)), (10, .int (nI dy)), (9, .int (nI ba)), (8, .int (nI len)), (7, .int (nI n)), (6, .int (nI mc)), (5, .ref d0), (4, .ref v0), (3, .ref c0), (2, .ref t0), (1, .ref x0), (0, .ref b), (13, .int w9), (14, .int (nI h9)), (16, .int (nI e9)), (17, .int (nI r9)), (18, .int (nI (8 * r9 + e9)))]) C 2 dL_law_376 rfl (iincN1 _) (by decide) rfl rfl ?_
                refine g_goto (tgt := 289) C dL_law_379 (by decide) ?_
                refine g_lv (lv' := [(20, .int (nI (k9 + 1))), (19, .int (nI (1 + x_280_6))), (11, .int (nI i)), (10, .int (nI dy)), (9, .int (nI ba)), (8, .int (nI len)), (7, .int (nI n)), (6, .int (nI mc)), (5, .ref d0), (4, .ref v0), (3, .ref c0), (2, .ref t0), (1, .ref x0), (0, .ref b), (13, .int w9), (14, .int (nI h9)), (15, .int (nI 1)), (16, .int (nI e9)), (17, .int (nI r9)), (18, .int (nI (8 * r9 + e9)))]) [0, 3, 4, 5, 6, 7, 8, 9, 10, 11, 12, 13, 14, 15, 16, 17, 1, 18, 19, 20] rfl ?_
                refine g_widen (k' := 100 + 200 * i + 2 * (k9 + 1)) (n' := 2000 + 2000 * i + 12 * (k9 + 1)) (by omega) (by omega) ?_
                exact ih_a w_359_15 (k9 + 1) (va_up dr9 k9 (oP (nI x_356_14))) HX_359_15 (by first | assumption | omega) (DW_part HD9 (cq_part (by omega) (by omega))) (fun _ _ => by rw [Nat.add_sub_cancel, va_up_self, oP_nI (by omega)]; exact (fun z => by cases z)) (by omega)
              · refine g_iload (pc' := 303) C 0 dL_law_301 rfl rfl ?_
                refine g_iload (pc' := 305) C 1 dL_law_303 rfl rfl ?_
                refine g_iconst (pc' := 306) (v := nI 1) C dL_law_305 (by decide) rfl ?_
                refine g_isub (pc' := 307) (v := nI ((1 + x_280_6) - 1)) C dL_law_306 (pk_sub (by first | assumption | omega)) rfl ?_
                refine g_icmp_geN (pc' := 310) (tgt := 326) C (by first | assumption | omega) (by first | assumption | omega) dL_law_307 (by decide) rfl (fun c_307_17 => ?_) (fun c_307_17 => ?_)
                · refine g_iconst (pc' := 327) (v := nI 0) C dL_law_326 (by decide) rfl ?_
                  refine g_istore (pc' := 329) (lv' := [(21, .int (nI 0)), (20, .int (nI k9)), (19, .int (nI (1 + x_280_6))), (11, .int (nI i)), (10, .int (nI dy)), (9, .int (nI ba)), (8, .int (nI len)), (7, .int (nI n)), (6, .int (nI mc)), (5, .ref d0), (4, .ref v0), (3, .ref c0), (2, .ref t0), (1, .ref x0), (0, .ref b), (13, .int w9), (14, .int (nI h9)), (15, .int (nI 1)), (16, .int (nI e9)), (17, .int (nI r9)), (18, .int (nI (8 * r9 + e9)))]) C dL_law_327 (by decide) rfl rfl ?_
                  refine g_iload (pc' := 331) C 17 dL_law_329 rfl rfl ?_
                  refine g_if_eqN (pc' := 334) (tgt := 373) C (by first | assumption | omega) dL_law_331 (by decide) rfl (fun z => absurd z (by decide)) (fun _ => ?_)
                  refine g_aload_n (pc' := 335) C 13 dL_law_334 rfl rfl rfl ?_
                  refine g_iload (pc' := 337) C 0 dL_law_335 rfl rfl ?_
                  refine g_if_eqN (pc' := 340) (tgt := 344) C (by first | assumption | omega) dL_law_337 (by decide) rfl (fun _ => ?_) (fun z => absurd z (by decide))
                  refine g_iload (pc' := 346) C 15 dL_law_344 rfl rfl ?_
                  refine g_bipush (pc' := 348) (v := nI 9) C dL_law_346 (by decide) rfl ?_
                  refine g_iconst (pc' := 349) (v := nI 3) C dL_law_348 (by decide) rfl ?_
                  refine g_iload (pc' := 351) C 1 dL_law_349 rfl rfl ?_
                  refine g_imul (pc' := 352) (v := nI (3 * k9)) C dL_law_351 (pk_mul _ _) rfl ?_
                  refine g_iadd (pc' := 353) (v := nI (9 + (3 * k9))) C dL_law_352 (nI_add _ _) rfl ?_
                  refine g_ishr (pc' := 354) (v := w9 >>> ((nI (9 + (3 * k9))) &&& 31)) C dL_law_353 rfl rfl ?_
                  refine g_bipush (pc' := 356) (v := nI 6) C dL_law_354 (by decide) rfl ?_
                  refine g_callPS (pc' := 359) C lk_RL_31 (kL_low l κ (w9 >>> ((nI (9 + (3 * k9))) &&& 31)) 6 (by omega) (by omega)) [] rfl rfl (Nat.le_of_ble_eq_true rfl) ⟨(by show 0 + 9 ≤ 2048; decide), (by show 219 + 2 + 40 * (0) ≤ 84000; decide)⟩ ⟨(by show _ ≤ 600104; omega), (by show _ ≤ 7301314; omega)⟩ rfl dL_law_356 rfl (fun r h => ?_)
                  obtain ⟨x_356_20, hx_356_20, rfl⟩ := h
                  obtain ⟨qx_21, fx_21, hqx_21⟩ := LX.recv HL_a
                  refine g_fQ (pc' := 362) (wr := [(t0, .inl (κ.2 0, 8, .inl (nA (va_up (bN th) mc 1)))), (c0, .inl (κ.2 0, 8, .inl (nA (va_up ck mc (1 + x_200_3))))), (v0, .inl (κ.2 0, 24, .inl (nA (fl8 iv)))), (d0, .inl (κ.2 0, 24, .inl (nA (fl8 dv))))]) (wc := wl_a) C YY hA ml_RL_42 lk_RL_42 (hp_part l hst κ x0 (nI x_356_20) HRW HSW HD9 HTW HB HK HI (by omega) HL_a (cq_part (by omega) (by omega))) (fun _ h => h) (List.Perm.refl _) qx_21 hqx_21 rfl rfl (Nat.le_of_ble_eq_true rfl) ⟨(by show 1 + 9 ≤ 2048; decide), (by show 219 + 2 + 40 * (1) ≤ 84000; decide)⟩ ⟨(by show _ ≤ 600104; omega), (by show _ ≤ 7301314; omega)⟩ rfl dL_law_359 rfl (fun r_359_21 w_359_21 h_359_21 => ?_)
                  obtain ⟨HX_359_21, hr_359_21⟩ := h_359_21
                  have er_359_21 : r_359_21 = nI (k9 + 1) := hr_359_21
                  subst er_359_21
                  refine g_iload (pc' := 364) C 1 dL_law_362 rfl rfl ?_
                  refine g_iconst (pc' := 365) (v := nI 1) C dL_law_364 (by decide) rfl ?_
                  refine g_iadd (pc' := 366) (v := nI (k9 + 1)) C dL_law_365 (nI_add _ _) rfl ?_
                  refine g_icmp_neN (pc' := 369) (tgt := 373) C (by first | assumption | omega) (by first | assumption | omega) dL_law_366 (by decide) rfl (fun c_366_22 => absurd c_366_22 (by exact fun q => q rfl)) (fun c_366_22 => ?_)
                  refine g_iconst (pc' := 370) (v := nI 1) C dL_law_369 (by decide) rfl ?_
                  refine g_goto (tgt := 374) C dL_law_370 (by decide) ?_
                  refine g_istore (pc' := 376) (lv' := [(15, .int (nI 1)), (21, .int (nI 0)), (20, .int (nI k9)), (19, .int (nI (1 + x_280_6))), (11, .int (nI i)), (10, .int (nI dy)), (9, .int (nI ba)), (8, .int (nI len)), (7, .int (nI n)), (6, .int (nI mc)), (5, .ref d0), (4, .ref v0), (3, .ref c0), (2, .ref t0), (1, .ref x0), (0, .ref b), (13, .int w9), (14, .int (nI h9)), (16, .int (nI e9)), (17, .int (nI r9)), (18, .int (nI (8 * r9 + e9)))]) C dL_law_374 (by decide) rfl rfl ?_
                  refine g_iinc (pc' := 379) (v := nI (k9 + 1)) (lv' := [(20, .int (nI (k9 + 1))), (15, .int (nI 1)), (21, .int (nI 0)), (19, .int (nI (1 + x_280_6))), (11, .int (nI i)), (10, .int (nI dy)), (9, .int (nI ba)), (8, .int (nI len)), (7, .int (nI n)), (6, .int (nI mc)), (5, .ref d0), (4, .ref v0), (3, .ref c0), (2, .ref t0), (1, .ref x0), (0, .ref b), (13, .int w9), (14, .int (nI h9)), (16, .int (nI e9)), (17, .int (nI r9)), (18, .int (nI (8 * r9 + e9)))]) C 2 dL_law_376 rfl (iincN1 _) (by decide) rfl rfl ?_
                  refine g_goto (tgt := 289) C dL_law_379 (by decide) ?_
                  refine g_lv (lv' := [(20, .int (nI (k9 + 1))), (19, .int (nI (1 + x_280_6))), (11, .int (nI i)), (10, .int (nI dy)), (9, .int (nI ba)), (8, .int (nI len)), (7, .int (nI n)), (6, .int (nI mc)), (5, .ref d0), (4, .ref v0), (3, .ref c0), (2, .ref t0), (1, .ref x0), (0, .ref b), (13, .int w9), (14, .int (nI h9)), (15, .int (nI 1)), (16, .int (nI e9)), (17, .int (nI r9)), (18, .int (nI (8 * r9 + e9)))]) [0, 3, 4, 5, 6, 7, 8, 9, 10, 11, 12, 13, 14, 15, 16, 17, 1, 18, 19, 20] rfl ?_
                  refine g_widen (k' := 100 + 200 * i + 2 * (k9 + 1)) (n' := 2000 + 2000 * i + 12 * (k9 + 1)) (by omega) (by omega) ?_
                  exact ih_a w_359_21 (k9 + 1) (va_up dr9 k9 (oP (nI x_356_20))) HX_359_21 (by first | assumption | omega) (DW_part HD9 (cq_part (by omega) (by omega))) (fun _ _ => by rw [Nat.add_sub_cancel, va_up_self, oP_nI (by omega)]; exact (fun z => by cases z)) (by omega)
                · refine g_iload (pc' := 312) C 14 dL_law_310 rfl rfl ?_
                  refine g_bipush (pc' := 314) (v := nI 8) C dL_law_312 (by decide) rfl ?_
                  refine g_ishr (pc' := 315) (v := w9 >>> ((nI 8) &&& 31)) C dL_law_314 rfl rfl ?_
                  refine g_iconst (pc' := 316) (v := nI 2) C dL_law_315 (by decide) rfl ?_
                  refine g_callPS (pc' := 319) C lk_RL_31 (kL_low l κ (w9 >>> ((nI 8) &&& 31)) 2 (by omega) (by omega)) [] rfl rfl (Nat.le_of_ble_eq_true rfl) ⟨(by show 0 + 9 ≤ 2048; decide), (by show 219 + 2 + 40 * (0) ≤ 84000; decide)⟩ ⟨(by show _ ≤ 600104; omega), (by show _ ≤ 7301314; omega)⟩ rfl dL_law_316 rfl (fun r h => ?_)
                  obtain ⟨x_316_23, hx_316_23, rfl⟩ := h
                  refine g_if_neN (pc' := 322) (tgt := 326) C (by first | assumption | omega) dL_law_319 (by decide) rfl (fun c_319_24 => ?_) (fun c_319_24 => ?_)
                  · refine g_iconst (pc' := 327) (v := nI 0) C dL_law_326 (by decide) rfl ?_
                    refine g_istore (pc' := 329) (lv' := [(21, .int (nI 0)), (20, .int (nI k9)), (19, .int (nI (1 + x_280_6))), (11, .int (nI i)), (10, .int (nI dy)), (9, .int (nI ba)), (8, .int (nI len)), (7, .int (nI n)), (6, .int (nI mc)), (5, .ref d0), (4, .ref v0), (3, .ref c0), (2, .ref t0), (1, .ref x0), (0, .ref b), (13, .int w9), (14, .int (nI h9)), (15, .int (nI 1)), (16, .int (nI e9)), (17, .int (nI r9)), (18, .int (nI (8 * r9 + e9)))]) C dL_law_327 (by decide) rfl rfl ?_
                    refine g_iload (pc' := 331) C 17 dL_law_329 rfl rfl ?_
                    refine g_if_eqN (pc' := 334) (tgt := 373) C (by first | assumption | omega) dL_law_331 (by decide) rfl (fun z => absurd z (by decide)) (fun _ => ?_)
                    refine g_aload_n (pc' := 335) C 13 dL_law_334 rfl rfl rfl ?_
                    refine g_iload (pc' := 337) C 0 dL_law_335 rfl rfl ?_
                    refine g_if_eqN (pc' := 340) (tgt := 344) C (by first | assumption | omega) dL_law_337 (by decide) rfl (fun _ => ?_) (fun z => absurd z (by decide))
                    refine g_iload (pc' := 346) C 15 dL_law_344 rfl rfl ?_
                    refine g_bipush (pc' := 348) (v := nI 9) C dL_law_346 (by decide) rfl ?_
                    refine g_iconst (pc' := 349) (v := nI 3) C dL_law_348 (by decide) rfl ?_
                    refine g_iload (pc' := 351) C 1 dL_law_349 rfl rfl ?_
                    refine g_imul (pc' := 352) (v := nI (3 * k9)) C dL_law_351 (pk_mul _ _) rfl ?_
                    refine g_iadd (pc' := 353) (v := nI (9 + (3 * k9))) C dL_law_352 (nI_add _ _) rfl ?_
                    refine g_ishr (pc' := 354) (v := w9 >>> ((nI (9 + (3 * k9))) &&& 31)) C dL_law_353 rfl rfl ?_
                    refine g_bipush (pc' := 356) (v := nI 6) C dL_law_354 (by decide) rfl ?_
                    refine g_callPS (pc' := 359) C lk_RL_31 (kL_low l κ (w9 >>> ((nI (9 + (3 * k9))) &&& 31)) 6 (by omega) (by omega)) [] rfl rfl (Nat.le_of_ble_eq_true rfl) ⟨(by show 0 + 9 ≤ 2048; decide), (by show 219 + 2 + 40 * (0) ≤ 84000; decide)⟩ ⟨(by show _ ≤ 600104; omega), (by show _ ≤ 7301314; omega)⟩ rfl dL_law_356 rfl (fun r h => ?_)
                    obtain ⟨x_356_27, hx_356_27, rfl⟩ := h
                    obtain ⟨qx_28, fx_28, hqx_28⟩ := LX.recv HL_a
                    refine g_fQ (pc' := 362) (wr := [(t0, .inl (κ.2 0, 8, .inl (nA (va_up (bN th) mc 1)))), (c0, .inl (κ.2 0, 8, .inl (nA (va_up ck mc (1 + x_200_3))))), (v0, .inl (κ.2 0, 24, .inl (nA (fl8 iv)))), (d0, .inl (κ.2 0, 24, .inl (nA (fl8 dv))))]) (wc := wl_a) C YY hA ml_RL_42 lk_RL_42 (hp_part l hst κ x0 (nI x_356_27) HRW HSW HD9 HTW HB HK HI (by omega) HL_a (cq_part (by omega) (by omega))) (fun _ h => h) (List.Perm.refl _) qx_28 hqx_28 rfl rfl (Nat.le_of_ble_eq_true rfl) ⟨(by show 1 + 9 ≤ 2048; decide), (by show 219 + 2 + 40 * (1) ≤ 84000; decide)⟩ ⟨(by show _ ≤ 600104; omega), (by show _ ≤ 7301314; omega)⟩ rfl dL_law_359 rfl (fun r_359_28 w_359_28 h_359_28 => ?_)
                    obtain ⟨HX_359_28, hr_359_28⟩ := h_359_28
                    have er_359_28 : r_359_28 = nI (k9 + 1) := hr_359_28
                    subst er_359_28
                    refine g_iload (pc' := 364) C 1 dL_law_362 rfl rfl ?_
                    refine g_iconst (pc' := 365) (v := nI 1) C dL_law_364 (by decide) rfl ?_
                    refine g_iadd (pc' := 366) (v := nI (k9 + 1)) C dL_law_365 (nI_add _ _) rfl ?_
                    refine g_icmp_neN (pc' := 369) (tgt := 373) C (by first | assumption | omega) (by first | assumption | omega) dL_law_366 (by decide) rfl (fun c_366_29 => absurd c_366_29 (by exact fun q => q rfl)) (fun c_366_29 => ?_)
                    refine g_iconst (pc' := 370) (v := nI 1) C dL_law_369 (by decide) rfl ?_
                    refine g_goto (tgt := 374) C dL_law_370 (by decide) ?_
                    refine g_istore (pc' := 376) (lv' := [(15, .int (nI 1)), (21, .int (nI 0)), (20, .int (nI k9)), (19, .int (nI (1 + x_280_6))), (11, .int (nI i)), (10, .int (nI dy)), (9, .int (nI ba)), (8, .int (nI len)), (7, .int (nI n)), (6, .int (nI mc)), (5, .ref d0), (4, .ref v0), (3, .ref c0), (2, .ref t0), (1, .ref x0), (0, .ref b), (13, .int w9), (14, .int (nI h9)), (16, .int (nI e9)), (17, .int (nI r9)), (18, .int (nI (8 * r9 + e9)))]) C dL_law_374 (by decide) rfl rfl ?_
                    refine g_iinc (pc' := 379) (v := nI (k9 + 1)) (lv' := [(20, .int (nI (k9 + 1))), (15, .int (nI 1)), (21, .int (nI 0)), (19, .int (nI (1 + x_280_6))), (11, .int (nI i)), (10, .int (nI dy)), (9, .int (nI ba)), (8, .int (nI len)), (7, .int (nI n)), (6, .int (nI mc)), (5, .ref d0), (4, .ref v0), (3, .ref c0), (2, .ref t0), (1, .ref x0), (0, .ref b), (13, .int w9), (14, .int (nI h9)), (16, .int (nI e9)), (17, .int (nI r9)), (18, .int (nI (8 * r9 + e9)))]) C 2 dL_law_376 rfl (iincN1 _) (by decide) rfl rfl ?_
                    refine g_goto (tgt := 289) C dL_law_379 (by decide) ?_
                    refine g_lv (lv' := [(20, .int (nI (k9 + 1))), (19, .int (nI (1 + x_280_6))), (11, .int (nI i)), (10, .int (nI dy)), (9, .int (nI ba)), (8, .int (nI len)), (7, .int (nI n)), (6, .int (nI mc)), (5, .ref d0), (4, .ref v0), (3, .ref c0), (2, .ref t0), (1, .ref x0), (0, .ref b), (13, .int w9), (14, .int (nI h9)), (15, .int (nI 1)), (16, .int (nI e9)), (17, .int (nI r9)), (18, .int (nI (8 * r9 + e9)))]) [0, 3, 4, 5, 6, 7, 8, 9, 10, 11, 12, 13, 14, 15, 16, 17, 1, 18, 19, 20] rfl ?_
                    refine g_widen (k' := 100 + 200 * i + 2 * (k9 + 1)) (n' := 2000 + 2000 * i + 12 * (k9 + 1)) (by omega) (by omega) ?_
                    exact ih_a w_359_28 (k9 + 1) (va_up dr9 k9 (oP (nI x_356_27))) HX_359_28 (by first | assumption | omega) (DW_part HD9 (cq_part (by omega) (by omega))) (fun _ _ => by rw [Nat.add_sub_cancel, va_up_self, oP_nI (by omega)]; exact (fun z => by cases z)) (by omega)
                  · refine g_iconst (pc' := 323) (v := nI 1) C dL_law_322 (by decide) rfl ?_
                    refine g_goto (tgt := 327) C dL_law_323 (by decide) ?_
                    refine g_istore (pc' := 329) (lv' := [(21, .int (nI 1)), (20, .int (nI k9)), (19, .int (nI (1 + x_280_6))), (11, .int (nI i)), (10, .int (nI dy)), (9, .int (nI ba)), (8, .int (nI len)), (7, .int (nI n)), (6, .int (nI mc)), (5, .ref d0), (4, .ref v0), (3, .ref c0), (2, .ref t0), (1, .ref x0), (0, .ref b), (13, .int w9), (14, .int (nI h9)), (15, .int (nI 1)), (16, .int (nI e9)), (17, .int (nI r9)), (18, .int (nI (8 * r9 + e9)))]) C dL_law_327 (by decide) rfl rfl ?_
                    refine g_iload (pc' := 331) C 17 dL_law_329 rfl rfl ?_
                    refine g_if_eqN (pc' := 334) (tgt := 373) C (by first | assumption | omega) dL_law_331 (by decide) rfl (fun z => absurd z (by decide)) (fun _ => ?_)
                    refine g_aload_n (pc' := 335) C 13 dL_law_334 rfl rfl rfl ?_
                    refine g_iload (pc' := 337) C 0 dL_law_335 rfl rfl ?_
                    refine g_if_eqN (pc' := 340) (tgt := 344) C (by first | assumption | omega) dL_law_337 (by decide) rfl (fun z => absurd z (by decide)) (fun _ => ?_)
                    refine g_iconst (pc' := 341) (v := (-1)) C dL_law_340 (by decide) rfl ?_
                    refine g_goto (tgt := 359) C dL_law_341 (by decide) ?_
                    obtain ⟨qx_32, fx_32, hqx_32⟩ := LX.recv HL_a
                    refine g_fQ (pc' := 362) (wr := [(t0, .inl (κ.2 0, 8, .inl (nA (va_up (bN th) mc 1)))), (c0, .inl (κ.2 0, 8, .inl (nA (va_up ck mc (1 + x_200_3))))), (v0, .inl (κ.2 0, 24, .inl (nA (fl8 iv)))), (d0, .inl (κ.2 0, 24, .inl (nA (fl8 dv))))]) (wc := wl_a) C YY hA ml_RL_42 lk_RL_42 (hp_part l hst κ x0 (-1) HRW HSW HD9 HTW HB HK HI (by omega) HL_a (cq_partO (by omega) (by omega))) (fun _ h => h) (List.Perm.refl _) qx_32 hqx_32 rfl rfl (Nat.le_of_ble_eq_true rfl) ⟨(by show 1 + 9 ≤ 2048; decide), (by show 219 + 2 + 40 * (1) ≤ 84000; decide)⟩ ⟨(by show _ ≤ 600104; omega), (by show _ ≤ 7301314; omega)⟩ rfl dL_law_359 rfl (fun r_359_32 w_359_32 h_359_32 => ?_)
                    obtain ⟨HX_359_32, hr_359_32⟩ := h_359_32
                    have er_359_32 : r_359_32 = nI (k9 + 1) := hr_359_32
                    subst er_359_32
                    refine g_iload (pc' := 364) C 1 dL_law_362 rfl rfl ?_
                    refine g_iconst (pc' := 365) (v := nI 1) C dL_law_364 (by decide) rfl ?_
                    refine g_iadd (pc' := 366) (v := nI (k9 + 1)) C dL_law_365 (nI_add _ _) rfl ?_
                    refine g_icmp_neN (pc' := 369) (tgt := 373) C (by first | assumption | omega) (by first | assumption | omega) dL_law_366 (by decide) rfl (fun c_366_33 => absurd c_366_33 (by exact fun q => q rfl)) (fun c_366_33 => ?_)
                    refine g_iconst (pc' := 370) (v := nI 1) C dL_law_369 (by decide) rfl ?_
                    refine g_goto (tgt := 374) C dL_law_370 (by decide) ?_
                    refine g_istore (pc' := 376) (lv' := [(15, .int (nI 1)), (21, .int (nI 1)), (20, .int (nI k9)), (19, .int (nI (1 + x_280_6))), (11, .int (nI i)), (10, .int (nI dy)), (9, .int (nI ba)), (8, .int (nI len)), (7, .int (nI n)), (6, .int (nI mc)), (5, .ref d0), (4, .ref v0), (3, .ref c0), (2, .ref t0), (1, .ref x0), (0, .ref b), (13, .int w9), (14, .int (nI h9)), (16, .int (nI e9)), (17, .int (nI r9)), (18, .int (nI (8 * r9 + e9)))]) C dL_law_374 (by decide) rfl rfl ?_
                    refine g_iinc (pc' := 379) (v := nI (k9 + 1)) (lv' := [(20, .int (nI (k9 + 1))), (15, .int (nI 1)), (21, .int (nI 1)), (19, .int (nI (1 + x_280_6))), (11, .int (nI i)), (10, .int (nI dy)), (9, .int (nI ba)), (8, .int (nI len)), (7, .int (nI n)), (6, .int (nI mc)), (5, .ref d0), (4, .ref v0), (3, .ref c0), (2, .ref t0), (1, .ref x0), (0, .ref b), (13, .int w9), (14, .int (nI h9)), (16, .int (nI e9)), (17, .int (nI r9)), (18, .int (nI (8 * r9 + e9)))]) C 2 dL_law_376 rfl (iincN1 _) (by decide) rfl rfl ?_
                    refine g_goto (tgt := 289) C dL_law_379 (by decide) ?_
                    refine g_lv (lv' := [(20, .int (nI (k9 + 1))), (19, .int (nI (1 + x_280_6))), (11, .int (nI i)), (10, .int (nI dy)), (9, .int (nI ba)), (8, .int (nI len)), (7, .int (nI n)), (6, .int (nI mc)), (5, .ref d0), (4, .ref v0), (3, .ref c0), (2, .ref t0), (1, .ref x0), (0, .ref b), (13, .int w9), (14, .int (nI h9)), (15, .int (nI 1)), (16, .int (nI e9)), (17, .int (nI r9)), (18, .int (nI (8 * r9 + e9)))]) [0, 3, 4, 5, 6, 7, 8, 9, 10, 11, 12, 13, 14, 15, 16, 17, 1, 18, 19, 20] rfl ?_
                    refine g_widen (k' := 100 + 200 * i + 2 * (k9 + 1)) (n' := 2000 + 2000 * i + 12 * (k9 + 1)) (by omega) (by omega) ?_
                    exact ih_a w_359_32 (k9 + 1) (va_up dr9 k9 (oP (-1))) HX_359_32 (by first | assumption | omega) (DW_part HD9 (cq_partO (by omega) (by omega))) (fun _ z => by omega) (by omega)
        refine g_widen (k' := 100 + 200 * i + 2 * 0) (n' := 2000 + 2000 * i + 12 * 0) (by omega) (by omega) ?_
        exact lp_a 5 wx 0 dr HX (Nat.zero_le _) HDW (fun z => absurd z (by decide)) (by omega)
      · refine g_aload_n (pc' := 222) C 10 dL_law_221 rfl rfl rfl ?_
        refine g_iload (pc' := 224) C 12 dL_law_222 rfl rfl ?_
        refine g_bipush (pc' := 226) (v := nI 6) C dL_law_224 (by decide) rfl ?_
        refine g_ishr (pc' := 227) (v := w9 >>> ((nI 6) &&& 31)) C dL_law_226 rfl rfl ?_
        refine g_bipush (pc' := 229) (v := nI 6) C dL_law_227 (by decide) rfl ?_
        refine g_callPS (pc' := 232) C lk_RL_31 (kL_low l κ (w9 >>> ((nI 6) &&& 31)) 6 (by omega) (by omega)) [] rfl rfl (Nat.le_of_ble_eq_true rfl) ⟨(by show 0 + 9 ≤ 2048; decide), (by show 219 + 2 + 40 * (0) ≤ 84000; decide)⟩ ⟨(by show _ ≤ 600104; omega), (by show _ ≤ 7301314; omega)⟩ rfl dL_law_229 rfl (fun r h => ?_)
        obtain ⟨x_229_34, hx_229_34, rfl⟩ := h
        refine g_iload (pc' := 234) C 12 dL_law_232 rfl rfl ?_
        refine g_bipush (pc' := 236) (v := nI 9) C dL_law_234 (by decide) rfl ?_
        refine g_ishr (pc' := 237) (v := w9 >>> ((nI 9) &&& 31)) C dL_law_236 rfl rfl ?_
        refine g_bipush (pc' := 239) (v := nI 6) C dL_law_237 (by decide) rfl ?_
        refine g_callPS (pc' := 242) C lk_RL_31 (kL_low l κ (w9 >>> ((nI 9) &&& 31)) 6 (by omega) (by omega)) [] rfl rfl (Nat.le_of_ble_eq_true rfl) ⟨(by show 0 + 9 ≤ 2048; decide), (by show 219 + 2 + 40 * (0) ≤ 84000; decide)⟩ ⟨(by show _ ≤ 600104; omega), (by show _ ≤ 7301314; omega)⟩ rfl dL_law_239 rfl (fun r h => ?_)
        obtain ⟨x_239_35, hx_239_35, rfl⟩ := h
        refine g_iload (pc' := 244) C 12 dL_law_242 rfl rfl ?_
        refine g_bipush (pc' := 246) (v := nI 12) C dL_law_244 (by decide) rfl ?_
        refine g_ishr (pc' := 247) (v := w9 >>> ((nI 12) &&& 31)) C dL_law_246 rfl rfl ?_
        refine g_iconst (pc' := 248) (v := nI 5) C dL_law_247 (by decide) rfl ?_
        refine g_callPS (pc' := 251) C lk_RL_31 (kL_low l κ (w9 >>> ((nI 12) &&& 31)) 5 (by omega) (by omega)) [] rfl rfl (Nat.le_of_ble_eq_true rfl) ⟨(by show 0 + 9 ≤ 2048; decide), (by show 219 + 2 + 40 * (0) ≤ 84000; decide)⟩ ⟨(by show _ ≤ 600104; omega), (by show _ ≤ 7301314; omega)⟩ rfl dL_law_248 rfl (fun r h => ?_)
        obtain ⟨x_248_36, hx_248_36, rfl⟩ := h
        refine g_aload_n (pc' := 252) C 8 dL_law_251 rfl rfl rfl ?_
        refine g_iload (pc' := 254) C 5 dL_law_252 rfl rfl ?_
        refine g_ialdN (pc' := 255) C 1 (f := (va_up ck mc (1 + x_200_3))) rfl mc (by first | assumption | omega) (by decide) dL_law_254 rfl ?_
        refine g_val (y := nI (1 + x_200_3)) (by rw [va_up_self]) ?_
        obtain ⟨qx_37, fx_37, hqx_37⟩ := LX.recv HX
        refine g_fQ (pc' := 258) (wr := [(t0, .inl (κ.2 0, 8, .inl (nA (va_up (bN th) mc 1)))), (c0, .inl (κ.2 0, 8, .inl (nA (va_up ck mc (1 + x_200_3))))), (v0, .inl (κ.2 0, 24, .inl (nA (fl8 iv)))), (d0, .inl (κ.2 0, 24, .inl (nA (fl8 dv))))]) (wc := wx) C YY hA ml_RL_38 lk_RL_38 (hp_addSplit l hst κ x0 x_229_34 x_239_35 x_248_36 (1 + x_200_3) HRW HSW HDW HTW HB HK HI (by omega) HX (by omega) (by omega) (by omega) ⟨by omega, by omega⟩ (by omega)) (fun _ h => h) (List.Perm.refl _) qx_37 hqx_37 rfl rfl (Nat.le_of_ble_eq_true rfl) ⟨(by show 2 + 9 ≤ 2048; decide), (by show 219 + 5 + 40 * (2) ≤ 84000; decide)⟩ ⟨(by show _ ≤ 600104; omega), (by show _ ≤ 7301314; omega)⟩ rfl dL_law_255 rfl (fun r_255_37 w_255_37 h_255_37 => ?_)
        obtain ⟨HX_255_37, hr_255_37⟩ := h_255_37
        have er_255_37 : r_255_37 = nI mc := hr_255_37
        subst er_255_37
        refine g_w (ws' := ([(t0, .inl (κ.2 0, 8, .inl (nA (bN (va_up th mc true))))), (c0, .inl (κ.2 0, 8, .inl (nA (va_up ck mc (1 + x_200_3))))), (v0, .inl (κ.2 0, 24, .inl (nA (fl8 iv)))), (d0, .inl (κ.2 0, 24, .inl (nA (fl8 dv))))] ++ w_255_37)) (by rw [bN_up]) ?_
        refine g_iload (pc' := 260) C 5 dL_law_258 rfl rfl ?_
        refine g_icmp_neN (pc' := 263) (tgt := 267) C (by first | assumption | omega) (by first | assumption | omega) dL_law_260 (by decide) rfl (fun c_260_38 => absurd c_260_38 (by exact fun q => q rfl)) (fun c_260_38 => ?_)
        refine g_iconst (pc' := 264) (v := nI 1) C dL_law_263 (by decide) rfl ?_
        refine g_goto (tgt := 268) C dL_law_264 (by decide) ?_
        refine g_istore (pc' := 270) (lv' := [(15, .int (nI 1)), (11, .int (nI i)), (10, .int (nI dy)), (9, .int (nI ba)), (8, .int (nI len)), (7, .int (nI n)), (6, .int (nI mc)), (5, .ref d0), (4, .ref v0), (3, .ref c0), (2, .ref t0), (1, .ref x0), (0, .ref b), (13, .int w9), (14, .int (nI h9)), (16, .int (nI e9)), (17, .int (nI r9)), (18, .int (nI (8 * r9 + e9)))]) C dL_law_268 (by decide) rfl rfl ?_
        refine g_goto (tgt := 407) C dL_law_270 (by decide) ?_
        refine g_iinc (pc' := 410) (v := nI (mc + 1)) (lv' := [(6, .int (nI (mc + 1))), (15, .int (nI 1)), (11, .int (nI i)), (10, .int (nI dy)), (9, .int (nI ba)), (8, .int (nI len)), (7, .int (nI n)), (5, .ref d0), (4, .ref v0), (3, .ref c0), (2, .ref t0), (1, .ref x0), (0, .ref b), (13, .int w9), (14, .int (nI h9)), (16, .int (nI e9)), (17, .int (nI r9)), (18, .int (nI (8 * r9 + e9)))]) C 6 dL_law_407 rfl (iincN1 _) (by decide) rfl rfl ?_
        refine g_goto (tgt := 880) C dL_law_410 (by decide) ?_
        refine g_lv (lv' := [(11, .int (nI i)), (10, .int (nI dy)), (9, .int (nI ba)), (8, .int (nI len)), (7, .int (nI n)), (6, .int (nI (mc + 1))), (5, .ref d0), (4, .ref v0), (3, .ref c0), (2, .ref t0), (1, .ref x0), (0, .ref b), (15, .int (nI 1)), (17, .int (nI r9))]) [2, 3, 4, 5, 6, 0, 7, 8, 9, 10, 11, 12, 1, 16] rfl ?_
        refine g_widen (k' := 100 + 200 * i + 40) (n' := 2000 + 2000 * i + 400) (by omega) (by omega) ?_
        exact law_880 hlc i hi HRW HSW HDW (TW_sp2 HTW (by omega) (by omega) (by omega) ⟨by omega, by omega⟩ (by omega)) HB HK HI (by omega) (CW_s HC) HX_255_37 KN hr9
end LAW
