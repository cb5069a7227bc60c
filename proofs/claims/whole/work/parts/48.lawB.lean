section LAW
variable {p : Program} {l : Launch} {e : Env} {s : State} {m : MethodId} {below : List Frame} {meth : Method} {c : Code} {κ : KK} {b L x0 u0 o0 : Nat} {xs : Nat → Int32}
set_option maxHeartbeats 4000000 in
set_option maxRecDepth 100000 in
theorem law_addPhrase (hlc : LC l p s m meth c κ b L xs) (i : Nat) (hi : 5 * i + 5 ≤ L) {t9 : Nat} {wx wm : va_W} {ou : Nat → Int64} {n : Nat} {fk : Nat → Nat} {fs : Nat → Nat} {len : Nat} {fw : Nat → Nat} {ds : Nat} {dr : Nat → Option Nat} {mc : Nat} {th : Nat → Bool} {rc : Nat → Option Nat} {ck : Nat → Nat} {pm : Nat → Nat} {ep : Nat → Nat → Option Nat} {ba : Nat} {dy : Nat} {iv : Nat → Nat → Nat} {dv : Nat → Nat → Nat} (HRW : RW n fk fs) (HSW : SW len fw) (HDW : DW ds dr) (HTW : TW mc th rc ck pm ep) (HB : ba ≤ 50) (HK : KW iv dv) (HI : IW iv) (hdy : dy ≤ 100 * i) (HX : LX κ x0 n fk fs len fw ds dr mc th rc ck pm ep ba dy iv dv wx) (HM : LM κ u0 t9 n fk fs len fw ds dr mc th rc ck pm ep ba dy iv dv wm) (KN : NX p l e s m below meth c κ b x0 u0 o0 i) : LG p l e s m below meth c κ b x0 u0 o0 i 399 (100 + 10 * i) (2000 + 50 * i) wx ou wm := by
  obtain ⟨C, YY, hX, hbl, hL, hst⟩ := hlc
  have hA : ∀ q, s.heap.size ≤ q → (fun q => s.heap.size ≤ q) q := fun _ h => h
  have hbA : ¬ (fun q => s.heap.size ≤ q) b := Nat.not_le.mpr hbl
  refine g_aload_n (pc' := 400) C 3 dL_law_399 rfl rfl rfl ?_
  refine g_aload_n (pc' := 401) C 4 dL_law_400 rfl rfl rfl ?_
  refine g_iload (pc' := 403) C 0 dL_law_401 rfl rfl ?_
  refine g_iconst (pc' := 404) (v := nI 1) C dL_law_403 (by decide) rfl ?_
  refine g_iadd (pc' := 405) (v := nI ((5 * i) + 1)) C dL_law_404 (nI_add _ _) rfl ?_
  refine g_sld (pc' := 406) C hX hbl hbA ((5 * i) + 1) (by omega) (by omega) dL_law_405 rfl ?_
  refine g_aload_n (pc' := 407) C 1 dL_law_406 rfl rfl rfl ?_
  refine g_fHi (pc' := 410) (wr := wm) (wc := wx ++ outW κ o0 ou) C hA YY lh_addPhrase (hX_addPhrase l hst κ x0 o0 ou (xs ((5 * i) + 1)) HRW HSW HDW HTW HB HK HI (by omega) HX) List.perm_append_comm rfl (Nat.le_of_ble_eq_true rfl) ⟨(by show 3 + 9 ≤ 2048; decide), (by show 219 + 4 + 40 * 3 ≤ 84000; decide)⟩ ⟨(by show _ ≤ 788806; omega), (by show _ ≤ 6729686; omega)⟩ rfl dL_law_407 rfl (fun r9 w9 h9 => ?_)
  rcases h9 with ⟨hc, rfl, w2, ou2, hp2, HX2, ho2⟩ | ⟨hc, rfl, w2, ou2, hp2, HX2⟩
  · refine g_perm (ws' := ((w2 ++ outW κ o0 ou2) ++ wm)) (List.perm_append_comm.trans (hp2.append_right wm)) ?_
    refine g_istore (pc' := 412) (lv' := [(5, .int (nI 0)), (4, .int (nI (5 * i))), (3, .ref o0), (2, .ref u0), (1, .ref x0), (0, .ref b)]) C dL_law_410 (by decide) rfl rfl ?_
    refine g_aload_n (pc' := 413) C 3 dL_law_412 rfl rfl rfl ?_
    refine g_aload_n (pc' := 414) C 5 dL_law_413 rfl rfl rfl ?_
    refine g_iload (pc' := 416) C 1 dL_law_414 rfl rfl ?_
    refine g_iconst (pc' := 417) (v := nI 1) C dL_law_416 (by decide) rfl ?_
    refine g_iadd (pc' := 418) (v := nI ((5 * i) + 1)) C dL_law_417 (nI_add _ _) rfl ?_
    refine g_sld (pc' := 419) C hX hbl hbA ((5 * i) + 1) (by omega) (by omega) dL_law_418 rfl ?_
    obtain ⟨qm, fm9, hqm⟩ := LM.recv HM
    refine g_fMi (pc' := 422) (wr := w2 ++ outW κ o0 ou2) (wc := wm) C hA lk_RL_102 (hM_addPhrase l κ u0 (xs ((5 * i) + 1)) HRW HSW HDW HTW HB HK HI (by omega) HM) (List.Perm.refl _) qm hqm rfl rfl (Nat.le_of_ble_eq_true rfl) ⟨(by show 2 + 9 ≤ 2048; decide), (by show 219 + 3 + 40 * 2 ≤ 84000; decide)⟩ ⟨(by show _ ≤ 788806; omega), (by show _ ≤ 6729686; omega)⟩ rfl dL_law_419 rfl (fun r6 w6 h6 => ?_)
    obtain ⟨HM6, hr6⟩ := h6.1 hc
    clear h6
    refine g_istore (pc' := 424) (lv' := [(6, .int r6), (5, .int (nI 0)), (4, .int (nI (5 * i))), (3, .ref o0), (2, .ref u0), (1, .ref x0), (0, .ref b)]) C dL_law_422 (by decide) rfl rfl ?_
    refine g_aload_n (pc' := 425) C 4 dL_law_424 rfl rfl rfl ?_
    obtain ⟨qt, ft, hqt⟩ := LM.recv HM6
    refine g_fP (pc' := 428) C lk_RL_86 (hM_thrown l κ u0 HM6) (fun q hq => List.mem_append_right _ hq) qt hqt rfl rfl (Nat.le_of_ble_eq_true rfl) ⟨(by show 0 + 9 ≤ 2048; decide), (by show 219 + 1 + 40 * 0 ≤ 84000; decide)⟩ ⟨(by show _ ≤ 788806; omega), (by show _ ≤ 6729686; omega)⟩ rfl dL_law_425 rfl (fun r8 h8 => ?_)
    obtain rfl : r8 = nI 0 := h8
    refine g_iload (pc' := 430) C 1 dL_law_428 rfl rfl ?_
    refine g_icmp_eqN (pc' := 433) (tgt := 435) C (by first | assumption | omega) (by first | assumption | omega) dL_law_430 (by decide) rfl (fun _ => ?_) (fun z => absurd z (by decide))
    refine g_iload (pc' := 437) C 1 dL_law_435 rfl rfl ?_
    refine g_if_neN (pc' := 440) (tgt := 452) C (by first | assumption | omega) dL_law_437 (by decide) rfl (fun z => absurd z (by decide)) (fun _ => ?_)
    refine g_aload_n (pc' := 441) C 3 dL_law_440 rfl rfl rfl ?_
    refine g_iconst (pc' := 442) (v := nI 0) C dL_law_441 (by decide) rfl ?_
    refine g_lald (pc' := 443) C (w2).length out_at 0 (by decide) (by decide) dL_law_442 rfl ?_
    refine g_iload (pc' := 445) C 0 dL_law_443 rfl rfl ?_
    refine g_i2l (pc' := 446) (v := (r6).toInt64) C dL_law_445 rfl rfl ?_
    refine g_lcmp (pc' := 447) C dL_law_446 rfl ?_
    refine g_val (y := nI 0) (lg_o ho2 hr6) ?_
    refine g_if_eqN (pc' := 450) (tgt := 452) C (by first | assumption | omega) dL_law_447 (by decide) rfl (fun _ => ?_) (fun z => absurd z (by decide))
    refine g_goto (tgt := 1355) C dL_law_452 (by decide) ?_
    refine g_lv (lv' := [(4, .int (nI (5 * i))), (3, .ref o0), (2, .ref u0), (1, .ref x0), (0, .ref b)]) [2, 3, 4, 5, 6] rfl ?_
    refine g_widen (k' := 100 + 10 * (i + 1)) (n' := 2000 + 50 * (i + 1)) (by omega) (by omega) ?_
    exact KN _ _ _ _ _ _ _ _ _ _ _ _ _ _ _ _ _ _ _ _ _ HRW HSW (DW_0 HDW) (TW_ph HTW HDW hc) HB HK HI (by omega) HX2 HM6
  · refine g_perm (ws' := ((w2 ++ outW κ o0 ou2) ++ wm)) (List.perm_append_comm.trans (hp2.append_right wm)) ?_
    refine g_istore (pc' := 412) (lv' := [(5, .int (nI (c_addPhrase (xs ((5 * i) + 1)) ds dr mc))), (4, .int (nI (5 * i))), (3, .ref o0), (2, .ref u0), (1, .ref x0), (0, .ref b)]) C dL_law_410 (by decide) rfl rfl ?_
    refine g_aload_n (pc' := 413) C 3 dL_law_412 rfl rfl rfl ?_
    refine g_aload_n (pc' := 414) C 5 dL_law_413 rfl rfl rfl ?_
    refine g_iload (pc' := 416) C 1 dL_law_414 rfl rfl ?_
    refine g_iconst (pc' := 417) (v := nI 1) C dL_law_416 (by decide) rfl ?_
    refine g_iadd (pc' := 418) (v := nI ((5 * i) + 1)) C dL_law_417 (nI_add _ _) rfl ?_
    refine g_sld (pc' := 419) C hX hbl hbA ((5 * i) + 1) (by omega) (by omega) dL_law_418 rfl ?_
    obtain ⟨qm, fm9, hqm⟩ := LM.recv HM
    refine g_fMi (pc' := 422) (wr := w2 ++ outW κ o0 ou2) (wc := wm) C hA lk_RL_102 (hM_addPhrase l κ u0 (xs ((5 * i) + 1)) HRW HSW HDW HTW HB HK HI (by omega) HM) (List.Perm.refl _) qm hqm rfl rfl (Nat.le_of_ble_eq_true rfl) ⟨(by show 2 + 9 ≤ 2048; decide), (by show 219 + 3 + 40 * 2 ≤ 84000; decide)⟩ ⟨(by show _ ≤ 788806; omega), (by show _ ≤ 6729686; omega)⟩ rfl dL_law_419 rfl (fun r6 w6 h6 => ?_)
    have HM6 := h6.2 hc
    clear h6
    refine g_istore (pc' := 424) (lv' := [(6, .int r6), (5, .int (nI (c_addPhrase (xs ((5 * i) + 1)) ds dr mc))), (4, .int (nI (5 * i))), (3, .ref o0), (2, .ref u0), (1, .ref x0), (0, .ref b)]) C dL_law_422 (by decide) rfl rfl ?_
    refine g_aload_n (pc' := 425) C 4 dL_law_424 rfl rfl rfl ?_
    obtain ⟨qt, ft, hqt⟩ := LM.recv HM6
    refine g_fP (pc' := 428) C lk_RL_86 (hM_thrown l κ u0 HM6) (fun q hq => List.mem_append_right _ hq) qt hqt rfl rfl (Nat.le_of_ble_eq_true rfl) ⟨(by show 0 + 9 ≤ 2048; decide), (by show 219 + 1 + 40 * 0 ≤ 84000; decide)⟩ ⟨(by show _ ≤ 788806; omega), (by show _ ≤ 6729686; omega)⟩ rfl dL_law_425 rfl (fun r8 h8 => ?_)
    obtain rfl : r8 = nI (c_addPhrase (xs ((5 * i) + 1)) ds dr mc) := h8
    refine g_iload (pc' := 430) C 1 dL_law_428 rfl rfl ?_
    refine g_icmp_eq (pc' := 433) (tgt := 435) C dL_law_430 (by decide) rfl (fun c_430_4 => ?_) (fun c_430_4 => absurd c_430_4 (by exact fun q => q rfl))
    refine g_iload (pc' := 437) C 1 dL_law_435 rfl rfl ?_
    refine g_if_ne (pc' := 440) (tgt := 452) C dL_law_437 (by decide) rfl (fun c_437_5 => ?_) (fun c_437_5 => absurd c_437_5 (by exact nI_c0 hc cb_addPhrase))
    refine g_goto (tgt := 1355) C dL_law_452 (by decide) ?_
    refine g_lv (lv' := [(4, .int (nI (5 * i))), (3, .ref o0), (2, .ref u0), (1, .ref x0), (0, .ref b)]) [2, 3, 4, 5, 6] rfl ?_
    refine g_widen (k' := 100 + 10 * (i + 1)) (n' := 2000 + 50 * (i + 1)) (by omega) (by omega) ?_
    exact KN _ _ _ _ _ _ _ _ _ _ _ _ _ _ _ _ _ _ _ _ _ HRW HSW HDW HTW HB HK HI (by omega) HX2 HM6

set_option maxHeartbeats 4000000 in
set_option maxRecDepth 100000 in
theorem law_addSplit (hlc : LC l p s m meth c κ b L xs) (i : Nat) (hi : 5 * i + 5 ≤ L) {t9 : Nat} {wx wm : va_W} {ou : Nat → Int64} {n : Nat} {fk : Nat → Nat} {fs : Nat → Nat} {len : Nat} {fw : Nat → Nat} {ds : Nat} {dr : Nat → Option Nat} {mc : Nat} {th : Nat → Bool} {rc : Nat → Option Nat} {ck : Nat → Nat} {pm : Nat → Nat} {ep : Nat → Nat → Option Nat} {ba : Nat} {dy : Nat} {iv : Nat → Nat → Nat} {dv : Nat → Nat → Nat} (HRW : RW n fk fs) (HSW : SW len fw) (HDW : DW ds dr) (HTW : TW mc th rc ck pm ep) (HB : ba ≤ 50) (HK : KW iv dv) (HI : IW iv) (hdy : dy ≤ 100 * i) (HX : LX κ x0 n fk fs len fw ds dr mc th rc ck pm ep ba dy iv dv wx) (HM : LM κ u0 t9 n fk fs len fw ds dr mc th rc ck pm ep ba dy iv dv wm) (KN : NX p l e s m below meth c κ b x0 u0 o0 i) : LG p l e s m below meth c κ b x0 u0 o0 i 455 (100 + 10 * i) (2000 + 50 * i) wx ou wm := by
  obtain ⟨C, YY, hX, hbl, hL, hst⟩ := hlc
  have hA : ∀ q, s.heap.size ≤ q → (fun q => s.heap.size ≤ q) q := fun _ h => h
  have hbA : ¬ (fun q => s.heap.size ≤ q) b := Nat.not_le.mpr hbl
  refine g_aload_n (pc' := 456) C 3 dL_law_455 rfl rfl rfl ?_
  refine g_aload_n (pc' := 457) C 4 dL_law_456 rfl rfl rfl ?_
  refine g_iload (pc' := 459) C 0 dL_law_457 rfl rfl ?_
  refine g_iconst (pc' := 460) (v := nI 1) C dL_law_459 (by decide) rfl ?_
  refine g_iadd (pc' := 461) (v := nI ((5 * i) + 1)) C dL_law_460 (nI_add _ _) rfl ?_
  refine g_sld (pc' := 462) C hX hbl hbA ((5 * i) + 1) (by omega) (by omega) dL_law_461 rfl ?_
  refine g_aload_n (pc' := 463) C 4 dL_law_462 rfl rfl rfl ?_
  refine g_iload (pc' := 465) C 0 dL_law_463 rfl rfl ?_
  refine g_iconst (pc' := 466) (v := nI 2) C dL_law_465 (by decide) rfl ?_
  refine g_iadd (pc' := 467) (v := nI ((5 * i) + 2)) C dL_law_466 (nI_add _ _) rfl ?_
  refine g_sld (pc' := 468) C hX hbl hbA ((5 * i) + 2) (by omega) (by omega) dL_law_467 rfl ?_
  refine g_aload_n (pc' := 469) C 4 dL_law_468 rfl rfl rfl ?_
  refine g_iload (pc' := 471) C 0 dL_law_469 rfl rfl ?_
  refine g_iconst (pc' := 472) (v := nI 3) C dL_law_471 (by decide) rfl ?_
  refine g_iadd (pc' := 473) (v := nI ((5 * i) + 3)) C dL_law_472 (nI_add _ _) rfl ?_
  refine g_sld (pc' := 474) C hX hbl hbA ((5 * i) + 3) (by omega) (by omega) dL_law_473 rfl ?_
  refine g_aload_n (pc' := 475) C 4 dL_law_474 rfl rfl rfl ?_
  refine g_iload (pc' := 477) C 0 dL_law_475 rfl rfl ?_
  refine g_iconst (pc' := 478) (v := nI 4) C dL_law_477 (by decide) rfl ?_
  refine g_iadd (pc' := 479) (v := nI ((5 * i) + 4)) C dL_law_478 (nI_add _ _) rfl ?_
  refine g_sld (pc' := 480) C hX hbl hbA ((5 * i) + 4) (by omega) (by omega) dL_law_479 rfl ?_
  refine g_aload_n (pc' := 481) C 1 dL_law_480 rfl rfl rfl ?_
  refine g_fHi (pc' := 484) (wr := wm) (wc := wx ++ outW κ o0 ou) C hA YY lh_addSplit (hX_addSplit l hst κ x0 o0 ou (xs ((5 * i) + 1)) (xs ((5 * i) + 2)) (xs ((5 * i) + 3)) (xs ((5 * i) + 4)) HRW HSW HDW HTW HB HK HI (by omega) HX) List.perm_append_comm rfl (Nat.le_of_ble_eq_true rfl) ⟨(by show 3 + 9 ≤ 2048; decide), (by show 219 + 7 + 40 * 3 ≤ 84000; decide)⟩ ⟨(by show _ ≤ 788806; omega), (by show _ ≤ 6729686; omega)⟩ rfl dL_law_481 rfl (fun r9 w9 h9 => ?_)
  rcases h9 with ⟨hc, rfl, w2, ou2, hp2, HX2, ho2⟩ | ⟨hc, rfl, w2, ou2, hp2, HX2⟩
  · refine g_perm (ws' := ((w2 ++ outW κ o0 ou2) ++ wm)) (List.perm_append_comm.trans (hp2.append_right wm)) ?_
    refine g_istore (pc' := 486) (lv' := [(5, .int (nI 0)), (4, .int (nI (5 * i))), (3, .ref o0), (2, .ref u0), (1, .ref x0), (0, .ref b)]) C dL_law_484 (by decide) rfl rfl ?_
    refine g_aload_n (pc' := 487) C 3 dL_law_486 rfl rfl rfl ?_
    refine g_aload_n (pc' := 488) C 5 dL_law_487 rfl rfl rfl ?_
    refine g_iload (pc' := 490) C 1 dL_law_488 rfl rfl ?_
    refine g_iconst (pc' := 491) (v := nI 1) C dL_law_490 (by decide) rfl ?_
    refine g_iadd (pc' := 492) (v := nI ((5 * i) + 1)) C dL_law_491 (nI_add _ _) rfl ?_
    refine g_sld (pc' := 493) C hX hbl hbA ((5 * i) + 1) (by omega) (by omega) dL_law_492 rfl ?_
    refine g_aload_n (pc' := 494) C 5 dL_law_493 rfl rfl rfl ?_
    refine g_iload (pc' := 496) C 1 dL_law_494 rfl rfl ?_
    refine g_iconst (pc' := 497) (v := nI 2) C dL_law_496 (by decide) rfl ?_
    refine g_iadd (pc' := 498) (v := nI ((5 * i) + 2)) C dL_law_497 (nI_add _ _) rfl ?_
    refine g_sld (pc' := 499) C hX hbl hbA ((5 * i) + 2) (by omega) (by omega) dL_law_498 rfl ?_
    refine g_aload_n (pc' := 500) C 5 dL_law_499 rfl rfl rfl ?_
    refine g_iload (pc' := 502) C 1 dL_law_500 rfl rfl ?_
    refine g_iconst (pc' := 503) (v := nI 3) C dL_law_502 (by decide) rfl ?_
    refine g_iadd (pc' := 504) (v := nI ((5 * i) + 3)) C dL_law_503 (nI_add _ _) rfl ?_
    refine g_sld (pc' := 505) C hX hbl hbA ((5 * i) + 3) (by omega) (by omega) dL_law_504 rfl ?_
    refine g_aload_n (pc' := 506) C 5 dL_law_505 rfl rfl rfl ?_
    refine g_iload (pc' := 508) C 1 dL_law_506 rfl rfl ?_
    refine g_iconst (pc' := 509) (v := nI 4) C dL_law_508 (by decide) rfl ?_
    refine g_iadd (pc' := 510) (v := nI ((5 * i) + 4)) C dL_law_509 (nI_add _ _) rfl ?_
    refine g_sld (pc' := 511) C hX hbl hbA ((5 * i) + 4) (by omega) (by omega) dL_law_510 rfl ?_
    obtain ⟨qm, fm9, hqm⟩ := LM.recv HM
    refine g_fMi (pc' := 514) (wr := w2 ++ outW κ o0 ou2) (wc := wm) C hA lk_RL_106 (hM_addSplit l κ u0 (xs ((5 * i) + 1)) (xs ((5 * i) + 2)) (xs ((5 * i) + 3)) (xs ((5 * i) + 4)) HRW HSW HDW HTW HB HK HI (by omega) HM) (List.Perm.refl _) qm hqm rfl rfl (Nat.le_of_ble_eq_true rfl) ⟨(by show 2 + 9 ≤ 2048; decide), (by show 219 + 5 + 40 * 2 ≤ 84000; decide)⟩ ⟨(by show _ ≤ 788806; omega), (by show _ ≤ 6729686; omega)⟩ rfl dL_law_511 rfl (fun r6 w6 h6 => ?_)
    obtain ⟨HM6, hr6⟩ := h6.1 hc
    clear h6
    refine g_istore (pc' := 516) (lv' := [(6, .int r6), (5, .int (nI 0)), (4, .int (nI (5 * i))), (3, .ref o0), (2, .ref u0), (1, .ref x0), (0, .ref b)]) C dL_law_514 (by decide) rfl rfl ?_
    refine g_aload_n (pc' := 517) C 4 dL_law_516 rfl rfl rfl ?_
    obtain ⟨qt, ft, hqt⟩ := LM.recv HM6
    refine g_fP (pc' := 520) C lk_RL_86 (hM_thrown l κ u0 HM6) (fun q hq => List.mem_append_right _ hq) qt hqt rfl rfl (Nat.le_of_ble_eq_true rfl) ⟨(by show 0 + 9 ≤ 2048; decide), (by show 219 + 1 + 40 * 0 ≤ 84000; decide)⟩ ⟨(by show _ ≤ 788806; omega), (by show _ ≤ 6729686; omega)⟩ rfl dL_law_517 rfl (fun r8 h8 => ?_)
    obtain rfl : r8 = nI 0 := h8
    refine g_iload (pc' := 522) C 1 dL_law_520 rfl rfl ?_
    refine g_icmp_eqN (pc' := 525) (tgt := 527) C (by first | assumption | omega) (by first | assumption | omega) dL_law_522 (by decide) rfl (fun _ => ?_) (fun z => absurd z (by decide))
    refine g_iload (pc' := 529) C 1 dL_law_527 rfl rfl ?_
    refine g_if_neN (pc' := 532) (tgt := 544) C (by first | assumption | omega) dL_law_529 (by decide) rfl (fun z => absurd z (by decide)) (fun _ => ?_)
    refine g_aload_n (pc' := 533) C 3 dL_law_532 rfl rfl rfl ?_
    refine g_iconst (pc' := 534) (v := nI 0) C dL_law_533 (by decide) rfl ?_
    refine g_lald (pc' := 535) C (w2).length out_at 0 (by decide) (by decide) dL_law_534 rfl ?_
    refine g_iload (pc' := 537) C 0 dL_law_535 rfl rfl ?_
    refine g_i2l (pc' := 538) (v := (r6).toInt64) C dL_law_537 rfl rfl ?_
    refine g_lcmp (pc' := 539) C dL_law_538 rfl ?_
    refine g_val (y := nI 0) (lg_o ho2 hr6) ?_
    refine g_if_eqN (pc' := 542) (tgt := 544) C (by first | assumption | omega) dL_law_539 (by decide) rfl (fun _ => ?_) (fun z => absurd z (by decide))
    refine g_goto (tgt := 1355) C dL_law_544 (by decide) ?_
    refine g_lv (lv' := [(4, .int (nI (5 * i))), (3, .ref o0), (2, .ref u0), (1, .ref x0), (0, .ref b)]) [2, 3, 4, 5, 6] rfl ?_
    refine g_widen (k' := 100 + 10 * (i + 1)) (n' := 2000 + 50 * (i + 1)) (by omega) (by omega) ?_
    exact KN _ _ _ _ _ _ _ _ _ _ _ _ _ _ _ _ _ _ _ _ _ HRW HSW HDW (TW_sp HTW hc) HB HK HI (by omega) HX2 HM6
  · refine g_perm (ws' := ((w2 ++ outW κ o0 ou2) ++ wm)) (List.perm_append_comm.trans (hp2.append_right wm)) ?_
    refine g_istore (pc' := 486) (lv' := [(5, .int (nI (c_addSplit (xs ((5 * i) + 1)) (xs ((5 * i) + 2)) (xs ((5 * i) + 3)) (xs ((5 * i) + 4)) mc))), (4, .int (nI (5 * i))), (3, .ref o0), (2, .ref u0), (1, .ref x0), (0, .ref b)]) C dL_law_484 (by decide) rfl rfl ?_
    refine g_aload_n (pc' := 487) C 3 dL_law_486 rfl rfl rfl ?_
    refine g_aload_n (pc' := 488) C 5 dL_law_487 rfl rfl rfl ?_
    refine g_iload (pc' := 490) C 1 dL_law_488 rfl rfl ?_
    refine g_iconst (pc' := 491) (v := nI 1) C dL_law_490 (by decide) rfl ?_
    refine g_iadd (pc' := 492) (v := nI ((5 * i) + 1)) C dL_law_491 (nI_add _ _) rfl ?_
    refine g_sld (pc' := 493) C hX hbl hbA ((5 * i) + 1) (by omega) (by omega) dL_law_492 rfl ?_
    refine g_aload_n (pc' := 494) C 5 dL_law_493 rfl rfl rfl ?_
    refine g_iload (pc' := 496) C 1 dL_law_494 rfl rfl ?_
    refine g_iconst (pc' := 497) (v := nI 2) C dL_law_496 (by decide) rfl ?_
    refine g_iadd (pc' := 498) (v := nI ((5 * i) + 2)) C dL_law_497 (nI_add _ _) rfl ?_
    refine g_sld (pc' := 499) C hX hbl hbA ((5 * i) + 2) (by omega) (by omega) dL_law_498 rfl ?_
    refine g_aload_n (pc' := 500) C 5 dL_law_499 rfl rfl rfl ?_
    refine g_iload (pc' := 502) C 1 dL_law_500 rfl rfl ?_
    refine g_iconst (pc' := 503) (v := nI 3) C dL_law_502 (by decide) rfl ?_
    refine g_iadd (pc' := 504) (v := nI ((5 * i) + 3)) C dL_law_503 (nI_add _ _) rfl ?_
    refine g_sld (pc' := 505) C hX hbl hbA ((5 * i) + 3) (by omega) (by omega) dL_law_504 rfl ?_
    refine g_aload_n (pc' := 506) C 5 dL_law_505 rfl rfl rfl ?_
    refine g_iload (pc' := 508) C 1 dL_law_506 rfl rfl ?_
    refine g_iconst (pc' := 509) (v := nI 4) C dL_law_508 (by decide) rfl ?_
    refine g_iadd (pc' := 510) (v := nI ((5 * i) + 4)) C dL_law_509 (nI_add _ _) rfl ?_
    refine g_sld (pc' := 511) C hX hbl hbA ((5 * i) + 4) (by omega) (by omega) dL_law_510 rfl ?_
    obtain ⟨qm, fm9, hqm⟩ := LM.recv HM
    refine g_fMi (pc' := 514) (wr := w2 ++ outW κ o0 ou2) (wc := wm) C hA lk_RL_106 (hM_addSplit l κ u0 (xs ((5 * i) + 1)) (xs ((5 * i) + 2)) (xs ((5 * i) + 3)) (xs ((5 * i) + 4)) HRW HSW HDW HTW HB HK HI (by omega) HM) (List.Perm.refl _) qm hqm rfl rfl (Nat.le_of_ble_eq_true rfl) ⟨(by show 2 + 9 ≤ 2048; decide), (by show 219 + 5 + 40 * 2 ≤ 84000; decide)⟩ ⟨(by show _ ≤ 788806; omega), (by show _ ≤ 6729686; omega)⟩ rfl dL_law_511 rfl (fun r6 w6 h6 => ?_)
    have HM6 := h6.2 hc
    clear h6
    refine g_istore (pc' := 516) (lv' := [(6, .int r6), (5, .int (nI (c_addSplit (xs ((5 * i) + 1)) (xs ((5 * i) + 2)) (xs ((5 * i) + 3)) (xs ((5 * i) + 4)) mc))), (4, .int (nI (5 * i))), (3, .ref o0), (2, .ref u0), (1, .ref x0), (0, .ref b)]) C dL_law_514 (by decide) rfl rfl ?_
    refine g_aload_n (pc' := 517) C 4 dL_law_516 rfl rfl rfl ?_
    obtain ⟨qt, ft, hqt⟩ := LM.recv HM6
    refine g_fP (pc' := 520) C lk_RL_86 (hM_thrown l κ u0 HM6) (fun q hq => List.mem_append_right _ hq) qt hqt rfl rfl (Nat.le_of_ble_eq_true rfl) ⟨(by show 0 + 9 ≤ 2048; decide), (by show 219 + 1 + 40 * 0 ≤ 84000; decide)⟩ ⟨(by show _ ≤ 788806; omega), (by show _ ≤ 6729686; omega)⟩ rfl dL_law_517 rfl (fun r8 h8 => ?_)
    obtain rfl : r8 = nI (c_addSplit (xs ((5 * i) + 1)) (xs ((5 * i) + 2)) (xs ((5 * i) + 3)) (xs ((5 * i) + 4)) mc) := h8
    refine g_iload (pc' := 522) C 1 dL_law_520 rfl rfl ?_
    refine g_icmp_eq (pc' := 525) (tgt := 527) C dL_law_522 (by decide) rfl (fun c_522_4 => ?_) (fun c_522_4 => absurd c_522_4 (by exact fun q => q rfl))
    refine g_iload (pc' := 529) C 1 dL_law_527 rfl rfl ?_
    refine g_if_ne (pc' := 532) (tgt := 544) C dL_law_529 (by decide) rfl (fun c_529_5 => ?_) (fun c_529_5 => absurd c_529_5 (by exact nI_c0 hc cb_addSplit))
    refine g_goto (tgt := 1355) C dL_law_544 (by decide) ?_
    refine g_lv (lv' := [(4, .int (nI (5 * i))), (3, .ref o0), (2, .ref u0), (1, .ref x0), (0, .ref b)]) [2, 3, 4, 5, 6] rfl ?_
    refine g_widen (k' := 100 + 10 * (i + 1)) (n' := 2000 + 50 * (i + 1)) (by omega) (by omega) ?_
    exact KN _ _ _ _ _ _ _ _ _ _ _ _ _ _ _ _ _ _ _ _ _ HRW HSW HDW HTW HB HK HI (by omega) HX2 HM6

set_option maxHeartbeats 4000000 in
set_option maxRecDepth 100000 in
theorem law_takeOut (hlc : LC l p s m meth c κ b L xs) (i : Nat) (hi : 5 * i + 5 ≤ L) {t9 : Nat} {wx wm : va_W} {ou : Nat → Int64} {n : Nat} {fk : Nat → Nat} {fs : Nat → Nat} {len : Nat} {fw : Nat → Nat} {ds : Nat} {dr : Nat → Option Nat} {mc : Nat} {th : Nat → Bool} {rc : Nat → Option Nat} {ck : Nat → Nat} {pm : Nat → Nat} {ep : Nat → Nat → Option Nat} {ba : Nat} {dy : Nat} {iv : Nat → Nat → Nat} {dv : Nat → Nat → Nat} (HRW : RW n fk fs) (HSW : SW len fw) (HDW : DW ds dr) (HTW : TW mc th rc ck pm ep) (HB : ba ≤ 50) (HK : KW iv dv) (HI : IW iv) (hdy : dy ≤ 100 * i) (HX : LX κ x0 n fk fs len fw ds dr mc th rc ck pm ep ba dy iv dv wx) (HM : LM κ u0 t9 n fk fs len fw ds dr mc th rc ck pm ep ba dy iv dv wm) (KN : NX p l e s m below meth c κ b x0 u0 o0 i) : LG p l e s m below meth c κ b x0 u0 o0 i 547 (100 + 10 * i) (2000 + 50 * i) wx ou wm := by
  obtain ⟨C, YY, hX, hbl, hL, hst⟩ := hlc
  have hA : ∀ q, s.heap.size ≤ q → (fun q => s.heap.size ≤ q) q := fun _ h => h
  have hbA : ¬ (fun q => s.heap.size ≤ q) b := Nat.not_le.mpr hbl
  refine g_aload_n (pc' := 548) C 3 dL_law_547 rfl rfl rfl ?_
  refine g_aload_n (pc' := 549) C 4 dL_law_548 rfl rfl rfl ?_
  refine g_iload (pc' := 551) C 0 dL_law_549 rfl rfl ?_
  refine g_iconst (pc' := 552) (v := nI 1) C dL_law_551 (by decide) rfl ?_
  refine g_iadd (pc' := 553) (v := nI ((5 * i) + 1)) C dL_law_552 (nI_add _ _) rfl ?_
  refine g_sld (pc' := 554) C hX hbl hbA ((5 * i) + 1) (by omega) (by omega) dL_law_553 rfl ?_
  refine g_aload_n (pc' := 555) C 1 dL_law_554 rfl rfl rfl ?_
  refine g_fHi (pc' := 558) (wr := wm) (wc := wx ++ outW κ o0 ou) C hA YY lh_takeOut (hX_takeOut l hst κ x0 o0 ou (xs ((5 * i) + 1)) HRW HSW HDW HTW HB HK HI (by omega) HX) List.perm_append_comm rfl (Nat.le_of_ble_eq_true rfl) ⟨(by show 4 + 9 ≤ 2048; decide), (by show 219 + 4 + 40 * 4 ≤ 84000; decide)⟩ ⟨(by show _ ≤ 788806; omega), (by show _ ≤ 6729686; omega)⟩ rfl dL_law_555 rfl (fun r9 w9 h9 => ?_)
  rcases h9 with ⟨hc, rfl, w2, ou2, hp2, HX2, ho2⟩ | ⟨hc, rfl, w2, ou2, hp2, HX2⟩
  · refine g_perm (ws' := ((w2 ++ outW κ o0 ou2) ++ wm)) (List.perm_append_comm.trans (hp2.append_right wm)) ?_
    refine g_istore (pc' := 560) (lv' := [(5, .int (nI 0)), (4, .int (nI (5 * i))), (3, .ref o0), (2, .ref u0), (1, .ref x0), (0, .ref b)]) C dL_law_558 (by decide) rfl rfl ?_
    refine g_aload_n (pc' := 561) C 3 dL_law_560 rfl rfl rfl ?_
    refine g_aload_n (pc' := 562) C 5 dL_law_561 rfl rfl rfl ?_
    refine g_iload (pc' := 564) C 1 dL_law_562 rfl rfl ?_
    refine g_iconst (pc' := 565) (v := nI 1) C dL_law_564 (by decide) rfl ?_
    refine g_iadd (pc' := 566) (v := nI ((5 * i) + 1)) C dL_law_565 (nI_add _ _) rfl ?_
    refine g_sld (pc' := 567) C hX hbl hbA ((5 * i) + 1) (by omega) (by omega) dL_law_566 rfl ?_
    obtain ⟨qm, fm9, hqm⟩ := LM.recv HM
    refine g_fMi (pc' := 570) (wr := w2 ++ outW κ o0 ou2) (wc := wm) C hA lk_RL_109 (hM_takeOut l κ u0 (xs ((5 * i) + 1)) HRW HSW HDW HTW HB HK HI (by omega) HM) (List.Perm.refl _) qm hqm rfl rfl (Nat.le_of_ble_eq_true rfl) ⟨(by show 2 + 9 ≤ 2048; decide), (by show 219 + 4 + 40 * 2 ≤ 84000; decide)⟩ ⟨(by show _ ≤ 788806; omega), (by show _ ≤ 6729686; omega)⟩ rfl dL_law_567 rfl (fun r6 w6 h6 => ?_)
    obtain ⟨HM6, hr6⟩ := h6.1 hc
    clear h6
    refine g_istore (pc' := 572) (lv' := [(6, .int r6), (5, .int (nI 0)), (4, .int (nI (5 * i))), (3, .ref o0), (2, .ref u0), (1, .ref x0), (0, .ref b)]) C dL_law_570 (by decide) rfl rfl ?_
    refine g_aload_n (pc' := 573) C 4 dL_law_572 rfl rfl rfl ?_
    obtain ⟨qt, ft, hqt⟩ := LM.recv HM6
    refine g_fP (pc' := 576) C lk_RL_86 (hM_thrown l κ u0 HM6) (fun q hq => List.mem_append_right _ hq) qt hqt rfl rfl (Nat.le_of_ble_eq_true rfl) ⟨(by show 0 + 9 ≤ 2048; decide), (by show 219 + 1 + 40 * 0 ≤ 84000; decide)⟩ ⟨(by show _ ≤ 788806; omega), (by show _ ≤ 6729686; omega)⟩ rfl dL_law_573 rfl (fun r8 h8 => ?_)
    obtain rfl : r8 = nI 0 := h8
    refine g_iload (pc' := 578) C 1 dL_law_576 rfl rfl ?_
    refine g_icmp_eqN (pc' := 581) (tgt := 583) C (by first | assumption | omega) (by first | assumption | omega) dL_law_578 (by decide) rfl (fun _ => ?_) (fun z => absurd z (by decide))
    refine g_iload (pc' := 585) C 1 dL_law_583 rfl rfl ?_
    refine g_if_neN (pc' := 588) (tgt := 600) C (by first | assumption | omega) dL_law_585 (by decide) rfl (fun z => absurd z (by decide)) (fun _ => ?_)
    refine g_aload_n (pc' := 589) C 3 dL_law_588 rfl rfl rfl ?_
    refine g_iconst (pc' := 590) (v := nI 0) C dL_law_589 (by decide) rfl ?_
    refine g_lald (pc' := 591) C (w2).length out_at 0 (by decide) (by decide) dL_law_590 rfl ?_
    refine g_iload (pc' := 593) C 0 dL_law_591 rfl rfl ?_
    refine g_i2l (pc' := 594) (v := (r6).toInt64) C dL_law_593 rfl rfl ?_
    refine g_lcmp (pc' := 595) C dL_law_594 rfl ?_
    refine g_val (y := nI 0) (lg_o ho2 hr6) ?_
    refine g_if_eqN (pc' := 598) (tgt := 600) C (by first | assumption | omega) dL_law_595 (by decide) rfl (fun _ => ?_) (fun z => absurd z (by decide))
    refine g_goto (tgt := 1355) C dL_law_600 (by decide) ?_
    refine g_lv (lv' := [(4, .int (nI (5 * i))), (3, .ref o0), (2, .ref u0), (1, .ref x0), (0, .ref b)]) [2, 3, 4, 5, 6] rfl ?_
    refine g_widen (k' := 100 + 10 * (i + 1)) (n' := 2000 + 50 * (i + 1)) (by omega) (by omega) ?_
    exact KN _ _ _ _ _ _ _ _ _ _ _ _ _ _ _ _ _ _ _ _ _ HRW HSW HDW (TW_off HTW _) HB (KW_drp HK _ 3) (IW_drp HI _ 3) (by omega) HX2 HM6
  · refine g_perm (ws' := ((w2 ++ outW κ o0 ou2) ++ wm)) (List.perm_append_comm.trans (hp2.append_right wm)) ?_
    refine g_istore (pc' := 560) (lv' := [(5, .int (nI (c_takeOut (xs ((5 * i) + 1)) th))), (4, .int (nI (5 * i))), (3, .ref o0), (2, .ref u0), (1, .ref x0), (0, .ref b)]) C dL_law_558 (by decide) rfl rfl ?_
    refine g_aload_n (pc' := 561) C 3 dL_law_560 rfl rfl rfl ?_
    refine g_aload_n (pc' := 562) C 5 dL_law_561 rfl rfl rfl ?_
    refine g_iload (pc' := 564) C 1 dL_law_562 rfl rfl ?_
    refine g_iconst (pc' := 565) (v := nI 1) C dL_law_564 (by decide) rfl ?_
    refine g_iadd (pc' := 566) (v := nI ((5 * i) + 1)) C dL_law_565 (nI_add _ _) rfl ?_
    refine g_sld (pc' := 567) C hX hbl hbA ((5 * i) + 1) (by omega) (by omega) dL_law_566 rfl ?_
    obtain ⟨qm, fm9, hqm⟩ := LM.recv HM
    refine g_fMi (pc' := 570) (wr := w2 ++ outW κ o0 ou2) (wc := wm) C hA lk_RL_109 (hM_takeOut l κ u0 (xs ((5 * i) + 1)) HRW HSW HDW HTW HB HK HI (by omega) HM) (List.Perm.refl _) qm hqm rfl rfl (Nat.le_of_ble_eq_true rfl) ⟨(by show 2 + 9 ≤ 2048; decide), (by show 219 + 4 + 40 * 2 ≤ 84000; decide)⟩ ⟨(by show _ ≤ 788806; omega), (by show _ ≤ 6729686; omega)⟩ rfl dL_law_567 rfl (fun r6 w6 h6 => ?_)
    have HM6 := h6.2 hc
    clear h6
    refine g_istore (pc' := 572) (lv' := [(6, .int r6), (5, .int (nI (c_takeOut (xs ((5 * i) + 1)) th))), (4, .int (nI (5 * i))), (3, .ref o0), (2, .ref u0), (1, .ref x0), (0, .ref b)]) C dL_law_570 (by decide) rfl rfl ?_
    refine g_aload_n (pc' := 573) C 4 dL_law_572 rfl rfl rfl ?_
    obtain ⟨qt, ft, hqt⟩ := LM.recv HM6
    refine g_fP (pc' := 576) C lk_RL_86 (hM_thrown l κ u0 HM6) (fun q hq => List.mem_append_right _ hq) qt hqt rfl rfl (Nat.le_of_ble_eq_true rfl) ⟨(by show 0 + 9 ≤ 2048; decide), (by show 219 + 1 + 40 * 0 ≤ 84000; decide)⟩ ⟨(by show _ ≤ 788806; omega), (by show _ ≤ 6729686; omega)⟩ rfl dL_law_573 rfl (fun r8 h8 => ?_)
    obtain rfl : r8 = nI (c_takeOut (xs ((5 * i) + 1)) th) := h8
    refine g_iload (pc' := 578) C 1 dL_law_576 rfl rfl ?_
    refine g_icmp_eq (pc' := 581) (tgt := 583) C dL_law_578 (by decide) rfl (fun c_578_4 => ?_) (fun c_578_4 => absurd c_578_4 (by exact fun q => q rfl))
    refine g_iload (pc' := 585) C 1 dL_law_583 rfl rfl ?_
    refine g_if_ne (pc' := 588) (tgt := 600) C dL_law_585 (by decide) rfl (fun c_585_5 => ?_) (fun c_585_5 => absurd c_585_5 (by exact nI_c0 hc cb_takeOut))
    refine g_goto (tgt := 1355) C dL_law_600 (by decide) ?_
    refine g_lv (lv' := [(4, .int (nI (5 * i))), (3, .ref o0), (2, .ref u0), (1, .ref x0), (0, .ref b)]) [2, 3, 4, 5, 6] rfl ?_
    refine g_widen (k' := 100 + 10 * (i + 1)) (n' := 2000 + 50 * (i + 1)) (by omega) (by omega) ?_
    exact KN _ _ _ _ _ _ _ _ _ _ _ _ _ _ _ _ _ _ _ _ _ HRW HSW HDW HTW HB HK HI (by omega) HX2 HM6

set_option maxHeartbeats 4000000 in
set_option maxRecDepth 100000 in
theorem law_say (hlc : LC l p s m meth c κ b L xs) (i : Nat) (hi : 5 * i + 5 ≤ L) {t9 : Nat} {wx wm : va_W} {ou : Nat → Int64} {n : Nat} {fk : Nat → Nat} {fs : Nat → Nat} {len : Nat} {fw : Nat → Nat} {ds : Nat} {dr : Nat → Option Nat} {mc : Nat} {th : Nat → Bool} {rc : Nat → Option Nat} {ck : Nat → Nat} {pm : Nat → Nat} {ep : Nat → Nat → Option Nat} {ba : Nat} {dy : Nat} {iv : Nat → Nat → Nat} {dv : Nat → Nat → Nat} (HRW : RW n fk fs) (HSW : SW len fw) (HDW : DW ds dr) (HTW : TW mc th rc ck pm ep) (HB : ba ≤ 50) (HK : KW iv dv) (HI : IW iv) (hdy : dy ≤ 100 * i) (HX : LX κ x0 n fk fs len fw ds dr mc th rc ck pm ep ba dy iv dv wx) (HM : LM κ u0 t9 n fk fs len fw ds dr mc th rc ck pm ep ba dy iv dv wm) (KN : NX p l e s m below meth c κ b x0 u0 o0 i) : LG p l e s m below meth c κ b x0 u0 o0 i 616 (100 + 10 * i) (2000 + 50 * i) wx ou wm := by
  obtain ⟨C, YY, hX, hbl, hL, hst⟩ := hlc
  have hA : ∀ q, s.heap.size ≤ q → (fun q => s.heap.size ≤ q) q := fun _ h => h
  have hbA : ¬ (fun q => s.heap.size ≤ q) b := Nat.not_le.mpr hbl
  refine g_aload_n (pc' := 617) C 3 dL_law_616 rfl rfl rfl ?_
  refine g_aload_n (pc' := 618) C 4 dL_law_617 rfl rfl rfl ?_
  refine g_iload (pc' := 620) C 0 dL_law_618 rfl rfl ?_
  refine g_iconst (pc' := 621) (v := nI 1) C dL_law_620 (by decide) rfl ?_
  refine g_iadd (pc' := 622) (v := nI ((5 * i) + 1)) C dL_law_621 (nI_add _ _) rfl ?_
  refine g_sld (pc' := 623) C hX hbl hbA ((5 * i) + 1) (by omega) (by omega) dL_law_622 rfl ?_
  refine g_aload_n (pc' := 624) C 1 dL_law_623 rfl rfl rfl ?_
  refine g_fHi (pc' := 627) (wr := wm) (wc := wx ++ outW κ o0 ou) C hA YY lh_say (hX_say l hst κ x0 o0 ou (xs ((5 * i) + 1)) HRW HSW HDW HTW HB HK HI (by omega) HX) List.perm_append_comm rfl (Nat.le_of_ble_eq_true rfl) ⟨(by show 2 + 9 ≤ 2048; decide), (by show 219 + 4 + 40 * 2 ≤ 84000; decide)⟩ ⟨(by show _ ≤ 788806; omega), (by show _ ≤ 6729686; omega)⟩ rfl dL_law_624 rfl (fun r9 w9 h9 => ?_)
  rcases h9 with ⟨hc, rfl, w2, ou2, hp2, HX2, ho2⟩ | ⟨hc, rfl, w2, ou2, hp2, HX2⟩
  · refine g_perm (ws' := ((w2 ++ outW κ o0 ou2) ++ wm)) (List.perm_append_comm.trans (hp2.append_right wm)) ?_
    refine g_istore (pc' := 629) (lv' := [(5, .int (nI 0)), (4, .int (nI (5 * i))), (3, .ref o0), (2, .ref u0), (1, .ref x0), (0, .ref b)]) C dL_law_627 (by decide) rfl rfl ?_
    refine g_aload_n (pc' := 630) C 3 dL_law_629 rfl rfl rfl ?_
    refine g_aload_n (pc' := 631) C 5 dL_law_630 rfl rfl rfl ?_
    refine g_iload (pc' := 633) C 1 dL_law_631 rfl rfl ?_
    refine g_iconst (pc' := 634) (v := nI 1) C dL_law_633 (by decide) rfl ?_
    refine g_iadd (pc' := 635) (v := nI ((5 * i) + 1)) C dL_law_634 (nI_add _ _) rfl ?_
    refine g_sld (pc' := 636) C hX hbl hbA ((5 * i) + 1) (by omega) (by omega) dL_law_635 rfl ?_
    obtain ⟨qm, fm9, hqm⟩ := LM.recv HM
    refine g_fMi (pc' := 639) (wr := w2 ++ outW κ o0 ou2) (wc := wm) C hA lk_RL_116 (hM_say l κ u0 (xs ((5 * i) + 1)) HRW HSW HDW HTW HB HK HI (by omega) HM) (List.Perm.refl _) qm hqm rfl rfl (Nat.le_of_ble_eq_true rfl) ⟨(by show 2 + 9 ≤ 2048; decide), (by show 219 + 2 + 40 * 2 ≤ 84000; decide)⟩ ⟨(by show _ ≤ 788806; omega), (by show _ ≤ 6729686; omega)⟩ rfl dL_law_636 rfl (fun r6 w6 h6 => ?_)
    obtain ⟨HM6, hr6⟩ := h6.1 hc
    clear h6
    refine g_istore (pc' := 641) (lv' := [(6, .int r6), (5, .int (nI 0)), (4, .int (nI (5 * i))), (3, .ref o0), (2, .ref u0), (1, .ref x0), (0, .ref b)]) C dL_law_639 (by decide) rfl rfl ?_
    refine g_aload_n (pc' := 642) C 4 dL_law_641 rfl rfl rfl ?_
    obtain ⟨qt, ft, hqt⟩ := LM.recv HM6
    refine g_fP (pc' := 645) C lk_RL_86 (hM_thrown l κ u0 HM6) (fun q hq => List.mem_append_right _ hq) qt hqt rfl rfl (Nat.le_of_ble_eq_true rfl) ⟨(by show 0 + 9 ≤ 2048; decide), (by show 219 + 1 + 40 * 0 ≤ 84000; decide)⟩ ⟨(by show _ ≤ 788806; omega), (by show _ ≤ 6729686; omega)⟩ rfl dL_law_642 rfl (fun r8 h8 => ?_)
    obtain rfl : r8 = nI 0 := h8
    refine g_iload (pc' := 647) C 1 dL_law_645 rfl rfl ?_
    refine g_icmp_eqN (pc' := 650) (tgt := 652) C (by first | assumption | omega) (by first | assumption | omega) dL_law_647 (by decide) rfl (fun _ => ?_) (fun z => absurd z (by decide))
    refine g_iload (pc' := 654) C 1 dL_law_652 rfl rfl ?_
    refine g_if_neN (pc' := 657) (tgt := 669) C (by first | assumption | omega) dL_law_654 (by decide) rfl (fun z => absurd z (by decide)) (fun _ => ?_)
    refine g_aload_n (pc' := 658) C 3 dL_law_657 rfl rfl rfl ?_
    refine g_iconst (pc' := 659) (v := nI 0) C dL_law_658 (by decide) rfl ?_
    refine g_lald (pc' := 660) C (w2).length out_at 0 (by decide) (by decide) dL_law_659 rfl ?_
    refine g_iload (pc' := 662) C 0 dL_law_660 rfl rfl ?_
    refine g_i2l (pc' := 663) (v := (r6).toInt64) C dL_law_662 rfl rfl ?_
    refine g_lcmp (pc' := 664) C dL_law_663 rfl ?_
    refine g_val (y := nI 0) (lg_o ho2 hr6) ?_
    refine g_if_eqN (pc' := 667) (tgt := 669) C (by first | assumption | omega) dL_law_664 (by decide) rfl (fun _ => ?_) (fun z => absurd z (by decide))
    refine g_goto (tgt := 1355) C dL_law_669 (by decide) ?_
    refine g_lv (lv' := [(4, .int (nI (5 * i))), (3, .ref o0), (2, .ref u0), (1, .ref x0), (0, .ref b)]) [2, 3, 4, 5, 6] rfl ?_
    refine g_widen (k' := 100 + 10 * (i + 1)) (n' := 2000 + 50 * (i + 1)) (by omega) (by omega) ?_
    exact KN _ _ _ _ _ _ _ _ _ _ _ _ _ _ _ _ _ _ _ _ _ HRW (SW_say HSW hc) HDW HTW HB HK HI (by omega) HX2 HM6
  · refine g_perm (ws' := ((w2 ++ outW κ o0 ou2) ++ wm)) (List.perm_append_comm.trans (hp2.append_right wm)) ?_
    refine g_istore (pc' := 629) (lv' := [(5, .int (nI (c_say (xs ((5 * i) + 1)) len))), (4, .int (nI (5 * i))), (3, .ref o0), (2, .ref u0), (1, .ref x0), (0, .ref b)]) C dL_law_627 (by decide) rfl rfl ?_
    refine g_aload_n (pc' := 630) C 3 dL_law_629 rfl rfl rfl ?_
    refine g_aload_n (pc' := 631) C 5 dL_law_630 rfl rfl rfl ?_
    refine g_iload (pc' := 633) C 1 dL_law_631 rfl rfl ?_
    refine g_iconst (pc' := 634) (v := nI 1) C dL_law_633 (by decide) rfl ?_
    refine g_iadd (pc' := 635) (v := nI ((5 * i) + 1)) C dL_law_634 (nI_add _ _) rfl ?_
    refine g_sld (pc' := 636) C hX hbl hbA ((5 * i) + 1) (by omega) (by omega) dL_law_635 rfl ?_
    obtain ⟨qm, fm9, hqm⟩ := LM.recv HM
    refine g_fMi (pc' := 639) (wr := w2 ++ outW κ o0 ou2) (wc := wm) C hA lk_RL_116 (hM_say l κ u0 (xs ((5 * i) + 1)) HRW HSW HDW HTW HB HK HI (by omega) HM) (List.Perm.refl _) qm hqm rfl rfl (Nat.le_of_ble_eq_true rfl) ⟨(by show 2 + 9 ≤ 2048; decide), (by show 219 + 2 + 40 * 2 ≤ 84000; decide)⟩ ⟨(by show _ ≤ 788806; omega), (by show _ ≤ 6729686; omega)⟩ rfl dL_law_636 rfl (fun r6 w6 h6 => ?_)
    have HM6 := h6.2 hc
    clear h6
    refine g_istore (pc' := 641) (lv' := [(6, .int r6), (5, .int (nI (c_say (xs ((5 * i) + 1)) len))), (4, .int (nI (5 * i))), (3, .ref o0), (2, .ref u0), (1, .ref x0), (0, .ref b)]) C dL_law_639 (by decide) rfl rfl ?_
    refine g_aload_n (pc' := 642) C 4 dL_law_641 rfl rfl rfl ?_
    obtain ⟨qt, ft, hqt⟩ := LM.recv HM6
    refine g_fP (pc' := 645) C lk_RL_86 (hM_thrown l κ u0 HM6) (fun q hq => List.mem_append_right _ hq) qt hqt rfl rfl (Nat.le_of_ble_eq_true rfl) ⟨(by show 0 + 9 ≤ 2048; decide), (by show 219 + 1 + 40 * 0 ≤ 84000; decide)⟩ ⟨(by show _ ≤ 788806; omega), (by show _ ≤ 6729686; omega)⟩ rfl dL_law_642 rfl (fun r8 h8 => ?_)
    obtain rfl : r8 = nI (c_say (xs ((5 * i) + 1)) len) := h8
    refine g_iload (pc' := 647) C 1 dL_law_645 rfl rfl ?_
    refine g_icmp_eq (pc' := 650) (tgt := 652) C dL_law_647 (by decide) rfl (fun c_647_4 => ?_) (fun c_647_4 => absurd c_647_4 (by exact fun q => q rfl))
    refine g_iload (pc' := 654) C 1 dL_law_652 rfl rfl ?_
    refine g_if_ne (pc' := 657) (tgt := 669) C dL_law_654 (by decide) rfl (fun c_654_5 => ?_) (fun c_654_5 => absurd c_654_5 (by exact nI_c0 hc cb_say))
    refine g_goto (tgt := 1355) C dL_law_669 (by decide) ?_
    refine g_lv (lv' := [(4, .int (nI (5 * i))), (3, .ref o0), (2, .ref u0), (1, .ref x0), (0, .ref b)]) [2, 3, 4, 5, 6] rfl ?_
    refine g_widen (k' := 100 + 10 * (i + 1)) (n' := 2000 + 50 * (i + 1)) (by omega) (by omega) ?_
    exact KN _ _ _ _ _ _ _ _ _ _ _ _ _ _ _ _ _ _ _ _ _ HRW HSW HDW HTW HB HK HI (by omega) HX2 HM6
end LAW
section LAW
variable {p : Program} {l : Launch} {e : Env} {s : State} {m : MethodId} {below : List Frame} {meth : Method} {c : Code} {κ : KK} {b L x0 u0 o0 : Nat} {xs : Nat → Int32}
set_option maxHeartbeats 4000000 in
set_option maxRecDepth 100000 in
theorem law_setBare (hlc : LC l p s m meth c κ b L xs) (i : Nat) (hi : 5 * i + 5 ≤ L) {t9 : Nat} {wx wm : va_W} {ou : Nat → Int64} {n : Nat} {fk : Nat → Nat} {fs : Nat → Nat} {len : Nat} {fw : Nat → Nat} {ds : Nat} {dr : Nat → Option Nat} {mc : Nat} {th : Nat → Bool} {rc : Nat → Option Nat} {ck : Nat → Nat} {pm : Nat → Nat} {ep : Nat → Nat → Option Nat} {ba : Nat} {dy : Nat} {iv : Nat → Nat → Nat} {dv : Nat → Nat → Nat} (HRW : RW n fk fs) (HSW : SW len fw) (HDW : DW ds dr) (HTW : TW mc th rc ck pm ep) (HB : ba ≤ 50) (HK : KW iv dv) (HI : IW iv) (hdy : dy ≤ 100 * i) (HX : LX κ x0 n fk fs len fw ds dr mc th rc ck pm ep ba dy iv dv wx) (HM : LM κ u0 t9 n fk fs len fw ds dr mc th rc ck pm ep ba dy iv dv wm) (KN : NX p l e s m below meth c κ b x0 u0 o0 i) : LG p l e s m below meth c κ b x0 u0 o0 i 685 (100 + 10 * i) (2000 + 50 * i) wx ou wm := by
  obtain ⟨C, YY, hX, hbl, hL, hst⟩ := hlc
  have hA : ∀ q, s.heap.size ≤ q → (fun q => s.heap.size ≤ q) q := fun _ h => h
  have hbA : ¬ (fun q => s.heap.size ≤ q) b := Nat.not_le.mpr hbl
  refine g_aload_n (pc' := 686) C 3 dL_law_685 rfl rfl rfl ?_
  refine g_aload_n (pc' := 687) C 4 dL_law_686 rfl rfl rfl ?_
  refine g_iload (pc' := 689) C 0 dL_law_687 rfl rfl ?_
  refine g_iconst (pc' := 690) (v := nI 1) C dL_law_689 (by decide) rfl ?_
  refine g_iadd (pc' := 691) (v := nI ((5 * i) + 1)) C dL_law_690 (nI_add _ _) rfl ?_
  refine g_sld (pc' := 692) C hX hbl hbA ((5 * i) + 1) (by omega) (by omega) dL_law_691 rfl ?_
  refine g_aload_n (pc' := 693) C 1 dL_law_692 rfl rfl rfl ?_
  refine g_fHi (pc' := 696) (wr := wm) (wc := wx ++ outW κ o0 ou) C hA YY lh_setBare (hX_setBare l hst κ x0 o0 ou (xs ((5 * i) + 1)) HRW HSW HDW HTW HB HK HI (by omega) HX) List.perm_append_comm rfl (Nat.le_of_ble_eq_true rfl) ⟨(by show 1 + 9 ≤ 2048; decide), (by show 219 + 4 + 40 * 1 ≤ 84000; decide)⟩ ⟨(by show _ ≤ 788806; omega), (by show _ ≤ 6729686; omega)⟩ rfl dL_law_693 rfl (fun r9 w9 h9 => ?_)
  rcases h9 with ⟨hc, rfl, w2, ou2, hp2, HX2, ho2⟩ | ⟨hc, rfl, w2, ou2, hp2, HX2⟩
  · refine g_perm (ws' := ((w2 ++ outW κ o0 ou2) ++ wm)) (List.perm_append_comm.trans (hp2.append_right wm)) ?_
    refine g_istore (pc' := 698) (lv' := [(5, .int (nI 0)), (4, .int (nI (5 * i))), (3, .ref o0), (2, .ref u0), (1, .ref x0), (0, .ref b)]) C dL_law_696 (by decide) rfl rfl ?_
    refine g_aload_n (pc' := 699) C 3 dL_law_698 rfl rfl rfl ?_
    refine g_aload_n (pc' := 700) C 5 dL_law_699 rfl rfl rfl ?_
    refine g_iload (pc' := 702) C 1 dL_law_700 rfl rfl ?_
    refine g_iconst (pc' := 703) (v := nI 1) C dL_law_702 (by decide) rfl ?_
    refine g_iadd (pc' := 704) (v := nI ((5 * i) + 1)) C dL_law_703 (nI_add _ _) rfl ?_
    refine g_sld (pc' := 705) C hX hbl hbA ((5 * i) + 1) (by omega) (by omega) dL_law_704 rfl ?_
    obtain ⟨qm, fm9, hqm⟩ := LM.recv HM
    refine g_fMi (pc' := 708) (wr := w2 ++ outW κ o0 ou2) (wc := wm) C hA lk_RL_123 (hM_setBare l κ u0 (xs ((5 * i) + 1)) HRW HSW HDW HTW HB HK HI (by omega) HM) (List.Perm.refl _) qm hqm rfl rfl (Nat.le_of_ble_eq_true rfl) ⟨(by show 1 + 9 ≤ 2048; decide), (by show 219 + 3 + 40 * 1 ≤ 84000; decide)⟩ ⟨(by show _ ≤ 788806; omega), (by show _ ≤ 6729686; omega)⟩ rfl dL_law_705 rfl (fun r6 w6 h6 => ?_)
    obtain ⟨HM6, hr6⟩ := h6.1 hc
    clear h6
    refine g_istore (pc' := 710) (lv' := [(6, .int r6), (5, .int (nI 0)), (4, .int (nI (5 * i))), (3, .ref o0), (2, .ref u0), (1, .ref x0), (0, .ref b)]) C dL_law_708 (by decide) rfl rfl ?_
    refine g_aload_n (pc' := 711) C 4 dL_law_710 rfl rfl rfl ?_
    obtain ⟨qt, ft, hqt⟩ := LM.recv HM6
    refine g_fP (pc' := 714) C lk_RL_86 (hM_thrown l κ u0 HM6) (fun q hq => List.mem_append_right _ hq) qt hqt rfl rfl (Nat.le_of_ble_eq_true rfl) ⟨(by show 0 + 9 ≤ 2048; decide), (by show 219 + 1 + 40 * 0 ≤ 84000; decide)⟩ ⟨(by show _ ≤ 788806; omega), (by show _ ≤ 6729686; omega)⟩ rfl dL_law_711 rfl (fun r8 h8 => ?_)
    obtain rfl : r8 = nI 0 := h8
    refine g_iload (pc' := 716) C 1 dL_law_714 rfl rfl ?_
    refine g_icmp_eqN (pc' := 719) (tgt := 721) C (by first | assumption | omega) (by first | assumption | omega) dL_law_716 (by decide) rfl (fun _ => ?_) (fun z => absurd z (by decide))
    refine g_iload (pc' := 723) C 1 dL_law_721 rfl rfl ?_
    refine g_if_neN (pc' := 726) (tgt := 738) C (by first | assumption | omega) dL_law_723 (by decide) rfl (fun z => absurd z (by decide)) (fun _ => ?_)
    refine g_aload_n (pc' := 727) C 3 dL_law_726 rfl rfl rfl ?_
    refine g_iconst (pc' := 728) (v := nI 0) C dL_law_727 (by decide) rfl ?_
    refine g_lald (pc' := 729) C (w2).length out_at 0 (by decide) (by decide) dL_law_728 rfl ?_
    refine g_iload (pc' := 731) C 0 dL_law_729 rfl rfl ?_
    refine g_i2l (pc' := 732) (v := (r6).toInt64) C dL_law_731 rfl rfl ?_
    refine g_lcmp (pc' := 733) C dL_law_732 rfl ?_
    refine g_val (y := nI 0) (lg_o ho2 hr6) ?_
    refine g_if_eqN (pc' := 736) (tgt := 738) C (by first | assumption | omega) dL_law_733 (by decide) rfl (fun _ => ?_) (fun z => absurd z (by decide))
    refine g_goto (tgt := 1355) C dL_law_738 (by decide) ?_
    refine g_lv (lv' := [(4, .int (nI (5 * i))), (3, .ref o0), (2, .ref u0), (1, .ref x0), (0, .ref b)]) [2, 3, 4, 5, 6] rfl ?_
    refine g_widen (k' := 100 + 10 * (i + 1)) (n' := 2000 + 50 * (i + 1)) (by omega) (by omega) ?_
    exact KN _ _ _ _ _ _ _ _ _ _ _ _ _ _ _ _ _ _ _ _ _ HRW HSW HDW HTW (cb_0 hc) HK HI (by omega) HX2 HM6
  · refine g_perm (ws' := ((w2 ++ outW κ o0 ou2) ++ wm)) (List.perm_append_comm.trans (hp2.append_right wm)) ?_
    refine g_istore (pc' := 698) (lv' := [(5, .int (nI (c_setBare (xs ((5 * i) + 1))))), (4, .int (nI (5 * i))), (3, .ref o0), (2, .ref u0), (1, .ref x0), (0, .ref b)]) C dL_law_696 (by decide) rfl rfl ?_
    refine g_aload_n (pc' := 699) C 3 dL_law_698 rfl rfl rfl ?_
    refine g_aload_n (pc' := 700) C 5 dL_law_699 rfl rfl rfl ?_
    refine g_iload (pc' := 702) C 1 dL_law_700 rfl rfl ?_
    refine g_iconst (pc' := 703) (v := nI 1) C dL_law_702 (by decide) rfl ?_
    refine g_iadd (pc' := 704) (v := nI ((5 * i) + 1)) C dL_law_703 (nI_add _ _) rfl ?_
    refine g_sld (pc' := 705) C hX hbl hbA ((5 * i) + 1) (by omega) (by omega) dL_law_704 rfl ?_
    obtain ⟨qm, fm9, hqm⟩ := LM.recv HM
    refine g_fMi (pc' := 708) (wr := w2 ++ outW κ o0 ou2) (wc := wm) C hA lk_RL_123 (hM_setBare l κ u0 (xs ((5 * i) + 1)) HRW HSW HDW HTW HB HK HI (by omega) HM) (List.Perm.refl _) qm hqm rfl rfl (Nat.le_of_ble_eq_true rfl) ⟨(by show 1 + 9 ≤ 2048; decide), (by show 219 + 3 + 40 * 1 ≤ 84000; decide)⟩ ⟨(by show _ ≤ 788806; omega), (by show _ ≤ 6729686; omega)⟩ rfl dL_law_705 rfl (fun r6 w6 h6 => ?_)
    have HM6 := h6.2 hc
    clear h6
    refine g_istore (pc' := 710) (lv' := [(6, .int r6), (5, .int (nI (c_setBare (xs ((5 * i) + 1))))), (4, .int (nI (5 * i))), (3, .ref o0), (2, .ref u0), (1, .ref x0), (0, .ref b)]) C dL_law_708 (by decide) rfl rfl ?_
    refine g_aload_n (pc' := 711) C 4 dL_law_710 rfl rfl rfl ?_
    obtain ⟨qt, ft, hqt⟩ := LM.recv HM6
    refine g_fP (pc' := 714) C lk_RL_86 (hM_thrown l κ u0 HM6) (fun q hq => List.mem_append_right _ hq) qt hqt rfl rfl (Nat.le_of_ble_eq_true rfl) ⟨(by show 0 + 9 ≤ 2048; decide), (by show 219 + 1 + 40 * 0 ≤ 84000; decide)⟩ ⟨(by show _ ≤ 788806; omega), (by show _ ≤ 6729686; omega)⟩ rfl dL_law_711 rfl (fun r8 h8 => ?_)
    obtain rfl : r8 = nI (c_setBare (xs ((5 * i) + 1))) := h8
    refine g_iload (pc' := 716) C 1 dL_law_714 rfl rfl ?_
    refine g_icmp_eq (pc' := 719) (tgt := 721) C dL_law_716 (by decide) rfl (fun c_716_4 => ?_) (fun c_716_4 => absurd c_716_4 (by exact fun q => q rfl))
    refine g_iload (pc' := 723) C 1 dL_law_721 rfl rfl ?_
    refine g_if_ne (pc' := 726) (tgt := 738) C dL_law_723 (by decide) rfl (fun c_723_5 => ?_) (fun c_723_5 => absurd c_723_5 (by exact nI_c0 hc cb_setBare))
    refine g_goto (tgt := 1355) C dL_law_738 (by decide) ?_
    refine g_lv (lv' := [(4, .int (nI (5 * i))), (3, .ref o0), (2, .ref u0), (1, .ref x0), (0, .ref b)]) [2, 3, 4, 5, 6] rfl ?_
    refine g_widen (k' := 100 + 10 * (i + 1)) (n' := 2000 + 50 * (i + 1)) (by omega) (by omega) ?_
    exact KN _ _ _ _ _ _ _ _ _ _ _ _ _ _ _ _ _ _ _ _ _ HRW HSW HDW HTW HB HK HI (by omega) HX2 HM6

set_option maxHeartbeats 4000000 in
set_option maxRecDepth 100000 in
theorem law_glossAt (hlc : LC l p s m meth c κ b L xs) (i : Nat) (hi : 5 * i + 5 ≤ L) {t9 : Nat} {wx wm : va_W} {ou : Nat → Int64} {n : Nat} {fk : Nat → Nat} {fs : Nat → Nat} {len : Nat} {fw : Nat → Nat} {ds : Nat} {dr : Nat → Option Nat} {mc : Nat} {th : Nat → Bool} {rc : Nat → Option Nat} {ck : Nat → Nat} {pm : Nat → Nat} {ep : Nat → Nat → Option Nat} {ba : Nat} {dy : Nat} {iv : Nat → Nat → Nat} {dv : Nat → Nat → Nat} (HRW : RW n fk fs) (HSW : SW len fw) (HDW : DW ds dr) (HTW : TW mc th rc ck pm ep) (HB : ba ≤ 50) (HK : KW iv dv) (HI : IW iv) (hdy : dy ≤ 100 * i) (HX : LX κ x0 n fk fs len fw ds dr mc th rc ck pm ep ba dy iv dv wx) (HM : LM κ u0 t9 n fk fs len fw ds dr mc th rc ck pm ep ba dy iv dv wm) (KN : NX p l e s m below meth c κ b x0 u0 o0 i) : LG p l e s m below meth c κ b x0 u0 o0 i 780 (100 + 10 * i) (2000 + 50 * i) wx ou wm := by
  obtain ⟨C, YY, hX, hbl, hL, hst⟩ := hlc
  have hA : ∀ q, s.heap.size ≤ q → (fun q => s.heap.size ≤ q) q := fun _ h => h
  have hbA : ¬ (fun q => s.heap.size ≤ q) b := Nat.not_le.mpr hbl
  refine g_aload_n (pc' := 781) C 3 dL_law_780 rfl rfl rfl ?_
  refine g_aload_n (pc' := 782) C 4 dL_law_781 rfl rfl rfl ?_
  refine g_iload (pc' := 784) C 0 dL_law_782 rfl rfl ?_
  refine g_iconst (pc' := 785) (v := nI 1) C dL_law_784 (by decide) rfl ?_
  refine g_iadd (pc' := 786) (v := nI ((5 * i) + 1)) C dL_law_785 (nI_add _ _) rfl ?_
  refine g_sld (pc' := 787) C hX hbl hbA ((5 * i) + 1) (by omega) (by omega) dL_law_786 rfl ?_
  refine g_aload_n (pc' := 788) C 1 dL_law_787 rfl rfl rfl ?_
  refine g_fHi (pc' := 791) (wr := wm) (wc := wx ++ outW κ o0 ou) C hA YY lh_glossAt (hX_glossAt l hst κ x0 o0 ou (xs ((5 * i) + 1)) HRW HSW HDW HTW HB HK HI (by omega) HX) List.perm_append_comm rfl (Nat.le_of_ble_eq_true rfl) ⟨(by show 8 + 9 ≤ 2048; decide), (by show 219 + 4 + 40 * 8 ≤ 84000; decide)⟩ ⟨(by show _ ≤ 788806; omega), (by show _ ≤ 6729686; omega)⟩ rfl dL_law_788 rfl (fun r9 w9 h9 => ?_)
  rcases h9 with ⟨hc, rfl, w2, ou2, hp2, HX2, ho2⟩ | ⟨hc, rfl, w2, ou2, hp2, HX2⟩
  · refine g_perm (ws' := ((w2 ++ outW κ o0 ou2) ++ wm)) (List.perm_append_comm.trans (hp2.append_right wm)) ?_
    refine g_istore (pc' := 793) (lv' := [(5, .int (nI 0)), (4, .int (nI (5 * i))), (3, .ref o0), (2, .ref u0), (1, .ref x0), (0, .ref b)]) C dL_law_791 (by decide) rfl rfl ?_
    refine g_aload_n (pc' := 794) C 3 dL_law_793 rfl rfl rfl ?_
    refine g_aload_n (pc' := 795) C 5 dL_law_794 rfl rfl rfl ?_
    refine g_iload (pc' := 797) C 1 dL_law_795 rfl rfl ?_
    refine g_iconst (pc' := 798) (v := nI 1) C dL_law_797 (by decide) rfl ?_
    refine g_iadd (pc' := 799) (v := nI ((5 * i) + 1)) C dL_law_798 (nI_add _ _) rfl ?_
    refine g_sld (pc' := 800) C hX hbl hbA ((5 * i) + 1) (by omega) (by omega) dL_law_799 rfl ?_
    obtain ⟨qm, fm9, hqm⟩ := LM.recv HM
    refine g_fMi (pc' := 803) (wr := w2 ++ outW κ o0 ou2) (wc := wm) C hA lk_RL_138 (hM_glossAt l κ u0 (xs ((5 * i) + 1)) HRW HSW HDW HTW HB HK HI (by omega) HM) (List.Perm.refl _) qm hqm rfl rfl (Nat.le_of_ble_eq_true rfl) ⟨(by show 5 + 9 ≤ 2048; decide), (by show 219 + 2 + 40 * 5 ≤ 84000; decide)⟩ ⟨(by show _ ≤ 788806; omega), (by show _ ≤ 6729686; omega)⟩ rfl dL_law_800 rfl (fun r6 w6 h6 => ?_)
    obtain ⟨HM6, hr6⟩ := h6.1 hc
    clear h6
    refine g_istore (pc' := 805) (lv' := [(6, .int r6), (5, .int (nI 0)), (4, .int (nI (5 * i))), (3, .ref o0), (2, .ref u0), (1, .ref x0), (0, .ref b)]) C dL_law_803 (by decide) rfl rfl ?_
    refine g_aload_n (pc' := 806) C 4 dL_law_805 rfl rfl rfl ?_
    obtain ⟨qt, ft, hqt⟩ := LM.recv HM6
    refine g_fP (pc' := 809) C lk_RL_86 (hM_thrown l κ u0 HM6) (fun q hq => List.mem_append_right _ hq) qt hqt rfl rfl (Nat.le_of_ble_eq_true rfl) ⟨(by show 0 + 9 ≤ 2048; decide), (by show 219 + 1 + 40 * 0 ≤ 84000; decide)⟩ ⟨(by show _ ≤ 788806; omega), (by show _ ≤ 6729686; omega)⟩ rfl dL_law_806 rfl (fun r8 h8 => ?_)
    obtain rfl : r8 = nI 0 := h8
    refine g_iload (pc' := 811) C 1 dL_law_809 rfl rfl ?_
    refine g_icmp_eqN (pc' := 814) (tgt := 816) C (by first | assumption | omega) (by first | assumption | omega) dL_law_811 (by decide) rfl (fun _ => ?_) (fun z => absurd z (by decide))
    refine g_iload (pc' := 818) C 1 dL_law_816 rfl rfl ?_
    refine g_if_neN (pc' := 821) (tgt := 833) C (by first | assumption | omega) dL_law_818 (by decide) rfl (fun z => absurd z (by decide)) (fun _ => ?_)
    refine g_aload_n (pc' := 822) C 3 dL_law_821 rfl rfl rfl ?_
    refine g_iconst (pc' := 823) (v := nI 0) C dL_law_822 (by decide) rfl ?_
    refine g_lald (pc' := 824) C (w2).length out_at 0 (by decide) (by decide) dL_law_823 rfl ?_
    refine g_iload (pc' := 826) C 0 dL_law_824 rfl rfl ?_
    refine g_i2l (pc' := 827) (v := (r6).toInt64) C dL_law_826 rfl rfl ?_
    refine g_lcmp (pc' := 828) C dL_law_827 rfl ?_
    refine g_val (y := nI 0) (lg_o ho2 hr6) ?_
    refine g_if_eqN (pc' := 831) (tgt := 833) C (by first | assumption | omega) dL_law_828 (by decide) rfl (fun _ => ?_) (fun z => absurd z (by decide))
    refine g_goto (tgt := 1355) C dL_law_833 (by decide) ?_
    refine g_lv (lv' := [(4, .int (nI (5 * i))), (3, .ref o0), (2, .ref u0), (1, .ref x0), (0, .ref b)]) [2, 3, 4, 5, 6] rfl ?_
    refine g_widen (k' := 100 + 10 * (i + 1)) (n' := 2000 + 50 * (i + 1)) (by omega) (by omega) ?_
    exact KN _ _ _ _ _ _ _ _ _ _ _ _ _ _ _ _ _ _ _ _ _ HRW HSW HDW HTW HB HK HI (by omega) HX2 HM6
  · refine g_perm (ws' := ((w2 ++ outW κ o0 ou2) ++ wm)) (List.perm_append_comm.trans (hp2.append_right wm)) ?_
    refine g_istore (pc' := 793) (lv' := [(5, .int (nI (c_place (xs ((5 * i) + 1)) len))), (4, .int (nI (5 * i))), (3, .ref o0), (2, .ref u0), (1, .ref x0), (0, .ref b)]) C dL_law_791 (by decide) rfl rfl ?_
    refine g_aload_n (pc' := 794) C 3 dL_law_793 rfl rfl rfl ?_
    refine g_aload_n (pc' := 795) C 5 dL_law_794 rfl rfl rfl ?_
    refine g_iload (pc' := 797) C 1 dL_law_795 rfl rfl ?_
    refine g_iconst (pc' := 798) (v := nI 1) C dL_law_797 (by decide) rfl ?_
    refine g_iadd (pc' := 799) (v := nI ((5 * i) + 1)) C dL_law_798 (nI_add _ _) rfl ?_
    refine g_sld (pc' := 800) C hX hbl hbA ((5 * i) + 1) (by omega) (by omega) dL_law_799 rfl ?_
    obtain ⟨qm, fm9, hqm⟩ := LM.recv HM
    refine g_fMi (pc' := 803) (wr := w2 ++ outW κ o0 ou2) (wc := wm) C hA lk_RL_138 (hM_glossAt l κ u0 (xs ((5 * i) + 1)) HRW HSW HDW HTW HB HK HI (by omega) HM) (List.Perm.refl _) qm hqm rfl rfl (Nat.le_of_ble_eq_true rfl) ⟨(by show 5 + 9 ≤ 2048; decide), (by show 219 + 2 + 40 * 5 ≤ 84000; decide)⟩ ⟨(by show _ ≤ 788806; omega), (by show _ ≤ 6729686; omega)⟩ rfl dL_law_800 rfl (fun r6 w6 h6 => ?_)
    have HM6 := h6.2 hc
    clear h6
    refine g_istore (pc' := 805) (lv' := [(6, .int r6), (5, .int (nI (c_place (xs ((5 * i) + 1)) len))), (4, .int (nI (5 * i))), (3, .ref o0), (2, .ref u0), (1, .ref x0), (0, .ref b)]) C dL_law_803 (by decide) rfl rfl ?_
    refine g_aload_n (pc' := 806) C 4 dL_law_805 rfl rfl rfl ?_
    obtain ⟨qt, ft, hqt⟩ := LM.recv HM6
    refine g_fP (pc' := 809) C lk_RL_86 (hM_thrown l κ u0 HM6) (fun q hq => List.mem_append_right _ hq) qt hqt rfl rfl (Nat.le_of_ble_eq_true rfl) ⟨(by show 0 + 9 ≤ 2048; decide), (by show 219 + 1 + 40 * 0 ≤ 84000; decide)⟩ ⟨(by show _ ≤ 788806; omega), (by show _ ≤ 6729686; omega)⟩ rfl dL_law_806 rfl (fun r8 h8 => ?_)
    obtain rfl : r8 = nI (c_place (xs ((5 * i) + 1)) len) := h8
    refine g_iload (pc' := 811) C 1 dL_law_809 rfl rfl ?_
    refine g_icmp_eq (pc' := 814) (tgt := 816) C dL_law_811 (by decide) rfl (fun c_811_4 => ?_) (fun c_811_4 => absurd c_811_4 (by exact fun q => q rfl))
    refine g_iload (pc' := 818) C 1 dL_law_816 rfl rfl ?_
    refine g_if_ne (pc' := 821) (tgt := 833) C dL_law_818 (by decide) rfl (fun c_818_5 => ?_) (fun c_818_5 => absurd c_818_5 (by exact nI_c0 hc cb_place))
    refine g_goto (tgt := 1355) C dL_law_833 (by decide) ?_
    refine g_lv (lv' := [(4, .int (nI (5 * i))), (3, .ref o0), (2, .ref u0), (1, .ref x0), (0, .ref b)]) [2, 3, 4, 5, 6] rfl ?_
    refine g_widen (k' := 100 + 10 * (i + 1)) (n' := 2000 + 50 * (i + 1)) (by omega) (by omega) ?_
    exact KN _ _ _ _ _ _ _ _ _ _ _ _ _ _ _ _ _ _ _ _ _ HRW HSW HDW HTW HB HK HI (by omega) HX2 HM6

set_option maxHeartbeats 4000000 in
set_option maxRecDepth 100000 in
theorem law_placesAt (hlc : LC l p s m meth c κ b L xs) (i : Nat) (hi : 5 * i + 5 ≤ L) {t9 : Nat} {wx wm : va_W} {ou : Nat → Int64} {n : Nat} {fk : Nat → Nat} {fs : Nat → Nat} {len : Nat} {fw : Nat → Nat} {ds : Nat} {dr : Nat → Option Nat} {mc : Nat} {th : Nat → Bool} {rc : Nat → Option Nat} {ck : Nat → Nat} {pm : Nat → Nat} {ep : Nat → Nat → Option Nat} {ba : Nat} {dy : Nat} {iv : Nat → Nat → Nat} {dv : Nat → Nat → Nat} (HRW : RW n fk fs) (HSW : SW len fw) (HDW : DW ds dr) (HTW : TW mc th rc ck pm ep) (HB : ba ≤ 50) (HK : KW iv dv) (HI : IW iv) (hdy : dy ≤ 100 * i) (HX : LX κ x0 n fk fs len fw ds dr mc th rc ck pm ep ba dy iv dv wx) (HM : LM κ u0 t9 n fk fs len fw ds dr mc th rc ck pm ep ba dy iv dv wm) (KN : NX p l e s m below meth c κ b x0 u0 o0 i) : LG p l e s m below meth c κ b x0 u0 o0 i 836 (100 + 10 * i) (2000 + 50 * i) wx ou wm := by
  obtain ⟨C, YY, hX, hbl, hL, hst⟩ := hlc
  have hA : ∀ q, s.heap.size ≤ q → (fun q => s.heap.size ≤ q) q := fun _ h => h
  have hbA : ¬ (fun q => s.heap.size ≤ q) b := Nat.not_le.mpr hbl
  refine g_aload_n (pc' := 837) C 3 dL_law_836 rfl rfl rfl ?_
  refine g_aload_n (pc' := 838) C 4 dL_law_837 rfl rfl rfl ?_
  refine g_iload (pc' := 840) C 0 dL_law_838 rfl rfl ?_
  refine g_iconst (pc' := 841) (v := nI 1) C dL_law_840 (by decide) rfl ?_
  refine g_iadd (pc' := 842) (v := nI ((5 * i) + 1)) C dL_law_841 (nI_add _ _) rfl ?_
  refine g_sld (pc' := 843) C hX hbl hbA ((5 * i) + 1) (by omega) (by omega) dL_law_842 rfl ?_
  refine g_aload_n (pc' := 844) C 1 dL_law_843 rfl rfl rfl ?_
  refine g_fHi (pc' := 847) (wr := wm) (wc := wx ++ outW κ o0 ou) C hA YY lh_placesAt (hX_placesAt l hst κ x0 o0 ou (xs ((5 * i) + 1)) HRW HSW HDW HTW HB HK HI (by omega) HX) List.perm_append_comm rfl (Nat.le_of_ble_eq_true rfl) ⟨(by show 8 + 9 ≤ 2048; decide), (by show 219 + 4 + 40 * 8 ≤ 84000; decide)⟩ ⟨(by show _ ≤ 788806; omega), (by show _ ≤ 6729686; omega)⟩ rfl dL_law_844 rfl (fun r9 w9 h9 => ?_)
  rcases h9 with ⟨hc, rfl, w2, ou2, hp2, HX2, ho2⟩ | ⟨hc, rfl, w2, ou2, hp2, HX2⟩
  · refine g_perm (ws' := ((w2 ++ outW κ o0 ou2) ++ wm)) (List.perm_append_comm.trans (hp2.append_right wm)) ?_
    refine g_istore (pc' := 849) (lv' := [(5, .int (nI 0)), (4, .int (nI (5 * i))), (3, .ref o0), (2, .ref u0), (1, .ref x0), (0, .ref b)]) C dL_law_847 (by decide) rfl rfl ?_
    refine g_aload_n (pc' := 850) C 3 dL_law_849 rfl rfl rfl ?_
    refine g_aload_n (pc' := 851) C 5 dL_law_850 rfl rfl rfl ?_
    refine g_iload (pc' := 853) C 1 dL_law_851 rfl rfl ?_
    refine g_iconst (pc' := 854) (v := nI 1) C dL_law_853 (by decide) rfl ?_
    refine g_iadd (pc' := 855) (v := nI ((5 * i) + 1)) C dL_law_854 (nI_add _ _) rfl ?_
    refine g_sld (pc' := 856) C hX hbl hbA ((5 * i) + 1) (by omega) (by omega) dL_law_855 rfl ?_
    obtain ⟨qm, fm9, hqm⟩ := LM.recv HM
    refine g_fMi (pc' := 859) (wr := w2 ++ outW κ o0 ou2) (wc := wm) C hA lk_RL_141 (hM_placesAt l κ u0 (xs ((5 * i) + 1)) HRW HSW HDW HTW HB HK HI (by omega) HM) (List.Perm.refl _) qm hqm rfl rfl (Nat.le_of_ble_eq_true rfl) ⟨(by show 5 + 9 ≤ 2048; decide), (by show 219 + 2 + 40 * 5 ≤ 84000; decide)⟩ ⟨(by show _ ≤ 788806; omega), (by show _ ≤ 6729686; omega)⟩ rfl dL_law_856 rfl (fun r6 w6 h6 => ?_)
    obtain ⟨HM6, hr6⟩ := h6.1 hc
    clear h6
    refine g_istore (pc' := 861) (lv' := [(6, .int r6), (5, .int (nI 0)), (4, .int (nI (5 * i))), (3, .ref o0), (2, .ref u0), (1, .ref x0), (0, .ref b)]) C dL_law_859 (by decide) rfl rfl ?_
    refine g_aload_n (pc' := 862) C 4 dL_law_861 rfl rfl rfl ?_
    obtain ⟨qt, ft, hqt⟩ := LM.recv HM6
    refine g_fP (pc' := 865) C lk_RL_86 (hM_thrown l κ u0 HM6) (fun q hq => List.mem_append_right _ hq) qt hqt rfl rfl (Nat.le_of_ble_eq_true rfl) ⟨(by show 0 + 9 ≤ 2048; decide), (by show 219 + 1 + 40 * 0 ≤ 84000; decide)⟩ ⟨(by show _ ≤ 788806; omega), (by show _ ≤ 6729686; omega)⟩ rfl dL_law_862 rfl (fun r8 h8 => ?_)
    obtain rfl : r8 = nI 0 := h8
    refine g_iload (pc' := 867) C 1 dL_law_865 rfl rfl ?_
    refine g_icmp_eqN (pc' := 870) (tgt := 872) C (by first | assumption | omega) (by first | assumption | omega) dL_law_867 (by decide) rfl (fun _ => ?_) (fun z => absurd z (by decide))
    refine g_iload (pc' := 874) C 1 dL_law_872 rfl rfl ?_
    refine g_if_neN (pc' := 877) (tgt := 889) C (by first | assumption | omega) dL_law_874 (by decide) rfl (fun z => absurd z (by decide)) (fun _ => ?_)
    refine g_aload_n (pc' := 878) C 3 dL_law_877 rfl rfl rfl ?_
    refine g_iconst (pc' := 879) (v := nI 0) C dL_law_878 (by decide) rfl ?_
    refine g_lald (pc' := 880) C (w2).length out_at 0 (by decide) (by decide) dL_law_879 rfl ?_
    refine g_iload (pc' := 882) C 0 dL_law_880 rfl rfl ?_
    refine g_i2l (pc' := 883) (v := (r6).toInt64) C dL_law_882 rfl rfl ?_
    refine g_lcmp (pc' := 884) C dL_law_883 rfl ?_
    refine g_val (y := nI 0) (lg_o ho2 hr6) ?_
    refine g_if_eqN (pc' := 887) (tgt := 889) C (by first | assumption | omega) dL_law_884 (by decide) rfl (fun _ => ?_) (fun z => absurd z (by decide))
    refine g_goto (tgt := 1355) C dL_law_889 (by decide) ?_
    refine g_lv (lv' := [(4, .int (nI (5 * i))), (3, .ref o0), (2, .ref u0), (1, .ref x0), (0, .ref b)]) [2, 3, 4, 5, 6] rfl ?_
    refine g_widen (k' := 100 + 10 * (i + 1)) (n' := 2000 + 50 * (i + 1)) (by omega) (by omega) ?_
    exact KN _ _ _ _ _ _ _ _ _ _ _ _ _ _ _ _ _ _ _ _ _ HRW HSW HDW HTW HB HK HI (by omega) HX2 HM6
  · refine g_perm (ws' := ((w2 ++ outW κ o0 ou2) ++ wm)) (List.perm_append_comm.trans (hp2.append_right wm)) ?_
    refine g_istore (pc' := 849) (lv' := [(5, .int (nI (c_place (xs ((5 * i) + 1)) len))), (4, .int (nI (5 * i))), (3, .ref o0), (2, .ref u0), (1, .ref x0), (0, .ref b)]) C dL_law_847 (by decide) rfl rfl ?_
    refine g_aload_n (pc' := 850) C 3 dL_law_849 rfl rfl rfl ?_
    refine g_aload_n (pc' := 851) C 5 dL_law_850 rfl rfl rfl ?_
    refine g_iload (pc' := 853) C 1 dL_law_851 rfl rfl ?_
    refine g_iconst (pc' := 854) (v := nI 1) C dL_law_853 (by decide) rfl ?_
    refine g_iadd (pc' := 855) (v := nI ((5 * i) + 1)) C dL_law_854 (nI_add _ _) rfl ?_
    refine g_sld (pc' := 856) C hX hbl hbA ((5 * i) + 1) (by omega) (by omega) dL_law_855 rfl ?_
    obtain ⟨qm, fm9, hqm⟩ := LM.recv HM
    refine g_fMi (pc' := 859) (wr := w2 ++ outW κ o0 ou2) (wc := wm) C hA lk_RL_141 (hM_placesAt l κ u0 (xs ((5 * i) + 1)) HRW HSW HDW HTW HB HK HI (by omega) HM) (List.Perm.refl _) qm hqm rfl rfl (Nat.le_of_ble_eq_true rfl) ⟨(by show 5 + 9 ≤ 2048; decide), (by show 219 + 2 + 40 * 5 ≤ 84000; decide)⟩ ⟨(by show _ ≤ 788806; omega), (by show _ ≤ 6729686; omega)⟩ rfl dL_law_856 rfl (fun r6 w6 h6 => ?_)
    have HM6 := h6.2 hc
    clear h6
    refine g_istore (pc' := 861) (lv' := [(6, .int r6), (5, .int (nI (c_place (xs ((5 * i) + 1)) len))), (4, .int (nI (5 * i))), (3, .ref o0), (2, .ref u0), (1, .ref x0), (0, .ref b)]) C dL_law_859 (by decide) rfl rfl ?_
    refine g_aload_n (pc' := 862) C 4 dL_law_861 rfl rfl rfl ?_
    obtain ⟨qt, ft, hqt⟩ := LM.recv HM6
    refine g_fP (pc' := 865) C lk_RL_86 (hM_thrown l κ u0 HM6) (fun q hq => List.mem_append_right _ hq) qt hqt rfl rfl (Nat.le_of_ble_eq_true rfl) ⟨(by show 0 + 9 ≤ 2048; decide), (by show 219 + 1 + 40 * 0 ≤ 84000; decide)⟩ ⟨(by show _ ≤ 788806; omega), (by show _ ≤ 6729686; omega)⟩ rfl dL_law_862 rfl (fun r8 h8 => ?_)
    obtain rfl : r8 = nI (c_place (xs ((5 * i) + 1)) len) := h8
    refine g_iload (pc' := 867) C 1 dL_law_865 rfl rfl ?_
    refine g_icmp_eq (pc' := 870) (tgt := 872) C dL_law_867 (by decide) rfl (fun c_867_4 => ?_) (fun c_867_4 => absurd c_867_4 (by exact fun q => q rfl))
    refine g_iload (pc' := 874) C 1 dL_law_872 rfl rfl ?_
    refine g_if_ne (pc' := 877) (tgt := 889) C dL_law_874 (by decide) rfl (fun c_874_5 => ?_) (fun c_874_5 => absurd c_874_5 (by exact nI_c0 hc cb_place))
    refine g_goto (tgt := 1355) C dL_law_889 (by decide) ?_
    refine g_lv (lv' := [(4, .int (nI (5 * i))), (3, .ref o0), (2, .ref u0), (1, .ref x0), (0, .ref b)]) [2, 3, 4, 5, 6] rfl ?_
    refine g_widen (k' := 100 + 10 * (i + 1)) (n' := 2000 + 50 * (i + 1)) (by omega) (by omega) ?_
    exact KN _ _ _ _ _ _ _ _ _ _ _ _ _ _ _ _ _ _ _ _ _ HRW HSW HDW HTW HB HK HI (by omega) HX2 HM6

set_option maxHeartbeats 4000000 in
set_option maxRecDepth 100000 in
theorem law_newEntries (hlc : LC l p s m meth c κ b L xs) (i : Nat) (hi : 5 * i + 5 ≤ L) {t9 : Nat} {wx wm : va_W} {ou : Nat → Int64} {n : Nat} {fk : Nat → Nat} {fs : Nat → Nat} {len : Nat} {fw : Nat → Nat} {ds : Nat} {dr : Nat → Option Nat} {mc : Nat} {th : Nat → Bool} {rc : Nat → Option Nat} {ck : Nat → Nat} {pm : Nat → Nat} {ep : Nat → Nat → Option Nat} {ba : Nat} {dy : Nat} {iv : Nat → Nat → Nat} {dv : Nat → Nat → Nat} (HRW : RW n fk fs) (HSW : SW len fw) (HDW : DW ds dr) (HTW : TW mc th rc ck pm ep) (HB : ba ≤ 50) (HK : KW iv dv) (HI : IW iv) (hdy : dy ≤ 100 * i) (HX : LX κ x0 n fk fs len fw ds dr mc th rc ck pm ep ba dy iv dv wx) (HM : LM κ u0 t9 n fk fs len fw ds dr mc th rc ck pm ep ba dy iv dv wm) (KN : NX p l e s m below meth c κ b x0 u0 o0 i) : LG p l e s m below meth c κ b x0 u0 o0 i 892 (100 + 10 * i) (2000 + 50 * i) wx ou wm := by
  obtain ⟨C, YY, hX, hbl, hL, hst⟩ := hlc
  have hA : ∀ q, s.heap.size ≤ q → (fun q => s.heap.size ≤ q) q := fun _ h => h
  have hbA : ¬ (fun q => s.heap.size ≤ q) b := Nat.not_le.mpr hbl
  refine g_aload_n (pc' := 893) C 3 dL_law_892 rfl rfl rfl ?_
  refine g_aload_n (pc' := 894) C 4 dL_law_893 rfl rfl rfl ?_
  refine g_iload (pc' := 896) C 0 dL_law_894 rfl rfl ?_
  refine g_iconst (pc' := 897) (v := nI 1) C dL_law_896 (by decide) rfl ?_
  refine g_iadd (pc' := 898) (v := nI ((5 * i) + 1)) C dL_law_897 (nI_add _ _) rfl ?_
  refine g_sld (pc' := 899) C hX hbl hbA ((5 * i) + 1) (by omega) (by omega) dL_law_898 rfl ?_
  refine g_aload_n (pc' := 900) C 1 dL_law_899 rfl rfl rfl ?_
  refine g_fHi (pc' := 903) (wr := wm) (wc := wx ++ outW κ o0 ou) C hA YY lh_newEntries (hX_newEntries l hst κ x0 o0 ou (xs ((5 * i) + 1)) HRW HSW HDW HTW HB HK HI (by omega) HX) List.perm_append_comm rfl (Nat.le_of_ble_eq_true rfl) ⟨(by show 8 + 9 ≤ 2048; decide), (by show 219 + 4 + 40 * 8 ≤ 84000; decide)⟩ ⟨(by show _ ≤ 788806; omega), (by show _ ≤ 6729686; omega)⟩ rfl dL_law_900 rfl (fun r9 w9 h9 => ?_)
  rcases h9 with ⟨hc, rfl, w2, ou2, hp2, HX2, ho2⟩ | ⟨hc, rfl, w2, ou2, hp2, HX2⟩
  · refine g_perm (ws' := ((w2 ++ outW κ o0 ou2) ++ wm)) (List.perm_append_comm.trans (hp2.append_right wm)) ?_
    refine g_istore (pc' := 905) (lv' := [(5, .int (nI 0)), (4, .int (nI (5 * i))), (3, .ref o0), (2, .ref u0), (1, .ref x0), (0, .ref b)]) C dL_law_903 (by decide) rfl rfl ?_
    refine g_aload_n (pc' := 906) C 3 dL_law_905 rfl rfl rfl ?_
    refine g_aload_n (pc' := 907) C 5 dL_law_906 rfl rfl rfl ?_
    refine g_iload (pc' := 909) C 1 dL_law_907 rfl rfl ?_
    refine g_iconst (pc' := 910) (v := nI 1) C dL_law_909 (by decide) rfl ?_
    refine g_iadd (pc' := 911) (v := nI ((5 * i) + 1)) C dL_law_910 (nI_add _ _) rfl ?_
    refine g_sld (pc' := 912) C hX hbl hbA ((5 * i) + 1) (by omega) (by omega) dL_law_911 rfl ?_
    obtain ⟨qm, fm9, hqm⟩ := LM.recv HM
    refine g_fMi (pc' := 915) (wr := w2 ++ outW κ o0 ou2) (wc := wm) C hA lk_RL_144 (hM_newEntries l κ u0 (xs ((5 * i) + 1)) HRW HSW HDW HTW HB HK HI (by omega) HM) (List.Perm.refl _) qm hqm rfl rfl (Nat.le_of_ble_eq_true rfl) ⟨(by show 4 + 9 ≤ 2048; decide), (by show 219 + 6 + 40 * 4 ≤ 84000; decide)⟩ ⟨(by show _ ≤ 788806; omega), (by show _ ≤ 6729686; omega)⟩ rfl dL_law_912 rfl (fun r6 w6 h6 => ?_)
    obtain ⟨HM6, hr6⟩ := h6.1 hc
    clear h6
    refine g_istore (pc' := 917) (lv' := [(6, .int r6), (5, .int (nI 0)), (4, .int (nI (5 * i))), (3, .ref o0), (2, .ref u0), (1, .ref x0), (0, .ref b)]) C dL_law_915 (by decide) rfl rfl ?_
    refine g_aload_n (pc' := 918) C 4 dL_law_917 rfl rfl rfl ?_
    obtain ⟨qt, ft, hqt⟩ := LM.recv HM6
    refine g_fP (pc' := 921) C lk_RL_86 (hM_thrown l κ u0 HM6) (fun q hq => List.mem_append_right _ hq) qt hqt rfl rfl (Nat.le_of_ble_eq_true rfl) ⟨(by show 0 + 9 ≤ 2048; decide), (by show 219 + 1 + 40 * 0 ≤ 84000; decide)⟩ ⟨(by show _ ≤ 788806; omega), (by show _ ≤ 6729686; omega)⟩ rfl dL_law_918 rfl (fun r8 h8 => ?_)
    obtain rfl : r8 = nI 0 := h8
    refine g_iload (pc' := 923) C 1 dL_law_921 rfl rfl ?_
    refine g_icmp_eqN (pc' := 926) (tgt := 928) C (by first | assumption | omega) (by first | assumption | omega) dL_law_923 (by decide) rfl (fun _ => ?_) (fun z => absurd z (by decide))
    refine g_iload (pc' := 930) C 1 dL_law_928 rfl rfl ?_
    refine g_if_neN (pc' := 933) (tgt := 945) C (by first | assumption | omega) dL_law_930 (by decide) rfl (fun z => absurd z (by decide)) (fun _ => ?_)
    refine g_aload_n (pc' := 934) C 3 dL_law_933 rfl rfl rfl ?_
    refine g_iconst (pc' := 935) (v := nI 0) C dL_law_934 (by decide) rfl ?_
    refine g_lald (pc' := 936) C (w2).length out_at 0 (by decide) (by decide) dL_law_935 rfl ?_
    refine g_iload (pc' := 938) C 0 dL_law_936 rfl rfl ?_
    refine g_i2l (pc' := 939) (v := (r6).toInt64) C dL_law_938 rfl rfl ?_
    refine g_lcmp (pc' := 940) C dL_law_939 rfl ?_
    refine g_val (y := nI 0) (lg_o ho2 hr6) ?_
    refine g_if_eqN (pc' := 943) (tgt := 945) C (by first | assumption | omega) dL_law_940 (by decide) rfl (fun _ => ?_) (fun z => absurd z (by decide))
    refine g_goto (tgt := 1355) C dL_law_945 (by decide) ?_
    refine g_lv (lv' := [(4, .int (nI (5 * i))), (3, .ref o0), (2, .ref u0), (1, .ref x0), (0, .ref b)]) [2, 3, 4, 5, 6] rfl ?_
    refine g_widen (k' := 100 + 10 * (i + 1)) (n' := 2000 + 50 * (i + 1)) (by omega) (by omega) ?_
    exact KN _ _ _ _ _ _ _ _ _ _ _ _ _ _ _ _ _ _ _ _ _ HRW HSW HDW HTW HB HK HI (by omega) HX2 HM6
  · refine g_perm (ws' := ((w2 ++ outW κ o0 ou2) ++ wm)) (List.perm_append_comm.trans (hp2.append_right wm)) ?_
    refine g_istore (pc' := 905) (lv' := [(5, .int (nI (c_reader (xs ((5 * i) + 1))))), (4, .int (nI (5 * i))), (3, .ref o0), (2, .ref u0), (1, .ref x0), (0, .ref b)]) C dL_law_903 (by decide) rfl rfl ?_
    refine g_aload_n (pc' := 906) C 3 dL_law_905 rfl rfl rfl ?_
    refine g_aload_n (pc' := 907) C 5 dL_law_906 rfl rfl rfl ?_
    refine g_iload (pc' := 909) C 1 dL_law_907 rfl rfl ?_
    refine g_iconst (pc' := 910) (v := nI 1) C dL_law_909 (by decide) rfl ?_
    refine g_iadd (pc' := 911) (v := nI ((5 * i) + 1)) C dL_law_910 (nI_add _ _) rfl ?_
    refine g_sld (pc' := 912) C hX hbl hbA ((5 * i) + 1) (by omega) (by omega) dL_law_911 rfl ?_
    obtain ⟨qm, fm9, hqm⟩ := LM.recv HM
    refine g_fMi (pc' := 915) (wr := w2 ++ outW κ o0 ou2) (wc := wm) C hA lk_RL_144 (hM_newEntries l κ u0 (xs ((5 * i) + 1)) HRW HSW HDW HTW HB HK HI (by omega) HM) (List.Perm.refl _) qm hqm rfl rfl (Nat.le_of_ble_eq_true rfl) ⟨(by show 4 + 9 ≤ 2048; decide), (by show 219 + 6 + 40 * 4 ≤ 84000; decide)⟩ ⟨(by show _ ≤ 788806; omega), (by show _ ≤ 6729686; omega)⟩ rfl dL_law_912 rfl (fun r6 w6 h6 => ?_)
    have HM6 := h6.2 hc
    clear h6
    refine g_istore (pc' := 917) (lv' := [(6, .int r6), (5, .int (nI (c_reader (xs ((5 * i) + 1))))), (4, .int (nI (5 * i))), (3, .ref o0), (2, .ref u0), (1, .ref x0), (0, .ref b)]) C dL_law_915 (by decide) rfl rfl ?_
    refine g_aload_n (pc' := 918) C 4 dL_law_917 rfl rfl rfl ?_
    obtain ⟨qt, ft, hqt⟩ := LM.recv HM6
    refine g_fP (pc' := 921) C lk_RL_86 (hM_thrown l κ u0 HM6) (fun q hq => List.mem_append_right _ hq) qt hqt rfl rfl (Nat.le_of_ble_eq_true rfl) ⟨(by show 0 + 9 ≤ 2048; decide), (by show 219 + 1 + 40 * 0 ≤ 84000; decide)⟩ ⟨(by show _ ≤ 788806; omega), (by show _ ≤ 6729686; omega)⟩ rfl dL_law_918 rfl (fun r8 h8 => ?_)
    obtain rfl : r8 = nI (c_reader (xs ((5 * i) + 1))) := h8
    refine g_iload (pc' := 923) C 1 dL_law_921 rfl rfl ?_
    refine g_icmp_eq (pc' := 926) (tgt := 928) C dL_law_923 (by decide) rfl (fun c_923_4 => ?_) (fun c_923_4 => absurd c_923_4 (by exact fun q => q rfl))
    refine g_iload (pc' := 930) C 1 dL_law_928 rfl rfl ?_
    refine g_if_ne (pc' := 933) (tgt := 945) C dL_law_930 (by decide) rfl (fun c_930_5 => ?_) (fun c_930_5 => absurd c_930_5 (by exact nI_c0 hc cb_reader))
    refine g_goto (tgt := 1355) C dL_law_945 (by decide) ?_
    refine g_lv (lv' := [(4, .int (nI (5 * i))), (3, .ref o0), (2, .ref u0), (1, .ref x0), (0, .ref b)]) [2, 3, 4, 5, 6] rfl ?_
    refine g_widen (k' := 100 + 10 * (i + 1)) (n' := 2000 + 50 * (i + 1)) (by omega) (by omega) ?_
    exact KN _ _ _ _ _ _ _ _ _ _ _ _ _ _ _ _ _ _ _ _ _ HRW HSW HDW HTW HB HK HI (by omega) HX2 HM6
end LAW
section LAW
variable {p : Program} {l : Launch} {e : Env} {s : State} {m : MethodId} {below : List Frame} {meth : Method} {c : Code} {κ : KK} {b L x0 u0 o0 : Nat} {xs : Nat → Int32}
set_option maxHeartbeats 4000000 in
set_option maxRecDepth 100000 in
theorem law_learn (hlc : LC l p s m meth c κ b L xs) (i : Nat) (hi : 5 * i + 5 ≤ L) {t9 : Nat} {wx wm : va_W} {ou : Nat → Int64} {n : Nat} {fk : Nat → Nat} {fs : Nat → Nat} {len : Nat} {fw : Nat → Nat} {ds : Nat} {dr : Nat → Option Nat} {mc : Nat} {th : Nat → Bool} {rc : Nat → Option Nat} {ck : Nat → Nat} {pm : Nat → Nat} {ep : Nat → Nat → Option Nat} {ba : Nat} {dy : Nat} {iv : Nat → Nat → Nat} {dv : Nat → Nat → Nat} (HRW : RW n fk fs) (HSW : SW len fw) (HDW : DW ds dr) (HTW : TW mc th rc ck pm ep) (HB : ba ≤ 50) (HK : KW iv dv) (HI : IW iv) (hdy : dy ≤ 100 * i) (HX : LX κ x0 n fk fs len fw ds dr mc th rc ck pm ep ba dy iv dv wx) (HM : LM κ u0 t9 n fk fs len fw ds dr mc th rc ck pm ep ba dy iv dv wm) (KN : NX p l e s m below meth c κ b x0 u0 o0 i) : LG p l e s m below meth c κ b x0 u0 o0 i 948 (100 + 10 * i) (2000 + 50 * i) wx ou wm := by
  obtain ⟨C, YY, hX, hbl, hL, hst⟩ := hlc
  have hA : ∀ q, s.heap.size ≤ q → (fun q => s.heap.size ≤ q) q := fun _ h => h
  have hbA : ¬ (fun q => s.heap.size ≤ q) b := Nat.not_le.mpr hbl
  refine g_aload_n (pc' := 949) C 3 dL_law_948 rfl rfl rfl ?_
  refine g_aload_n (pc' := 950) C 4 dL_law_949 rfl rfl rfl ?_
  refine g_iload (pc' := 952) C 0 dL_law_950 rfl rfl ?_
  refine g_iconst (pc' := 953) (v := nI 1) C dL_law_952 (by decide) rfl ?_
  refine g_iadd (pc' := 954) (v := nI ((5 * i) + 1)) C dL_law_953 (nI_add _ _) rfl ?_
  refine g_sld (pc' := 955) C hX hbl hbA ((5 * i) + 1) (by omega) (by omega) dL_law_954 rfl ?_
  refine g_aload_n (pc' := 956) C 4 dL_law_955 rfl rfl rfl ?_
  refine g_iload (pc' := 958) C 0 dL_law_956 rfl rfl ?_
  refine g_iconst (pc' := 959) (v := nI 2) C dL_law_958 (by decide) rfl ?_
  refine g_iadd (pc' := 960) (v := nI ((5 * i) + 2)) C dL_law_959 (nI_add _ _) rfl ?_
  refine g_sld (pc' := 961) C hX hbl hbA ((5 * i) + 2) (by omega) (by omega) dL_law_960 rfl ?_
  refine g_aload_n (pc' := 962) C 1 dL_law_961 rfl rfl rfl ?_
  refine g_fHi (pc' := 965) (wr := wm) (wc := wx ++ outW κ o0 ou) C hA YY lh_learn (hX_learn l hst κ x0 o0 ou (xs ((5 * i) + 1)) (xs ((5 * i) + 2)) HRW HSW HDW HTW HB HK HI (by omega) HX) List.perm_append_comm rfl (Nat.le_of_ble_eq_true rfl) ⟨(by show 5 + 9 ≤ 2048; decide), (by show 219 + 5 + 40 * 5 ≤ 84000; decide)⟩ ⟨(by show _ ≤ 788806; omega), (by show _ ≤ 6729686; omega)⟩ rfl dL_law_962 rfl (fun r9 w9 h9 => ?_)
  rcases h9 with ⟨hc, rfl, w2, ou2, hp2, HX2, ho2⟩ | ⟨hc, rfl, w2, ou2, hp2, HX2⟩
  · refine g_perm (ws' := ((w2 ++ outW κ o0 ou2) ++ wm)) (List.perm_append_comm.trans (hp2.append_right wm)) ?_
    refine g_istore (pc' := 967) (lv' := [(5, .int (nI 0)), (4, .int (nI (5 * i))), (3, .ref o0), (2, .ref u0), (1, .ref x0), (0, .ref b)]) C dL_law_965 (by decide) rfl rfl ?_
    refine g_aload_n (pc' := 968) C 3 dL_law_967 rfl rfl rfl ?_
    refine g_aload_n (pc' := 969) C 5 dL_law_968 rfl rfl rfl ?_
    refine g_iload (pc' := 971) C 1 dL_law_969 rfl rfl ?_
    refine g_iconst (pc' := 972) (v := nI 1) C dL_law_971 (by decide) rfl ?_
    refine g_iadd (pc' := 973) (v := nI ((5 * i) + 1)) C dL_law_972 (nI_add _ _) rfl ?_
    refine g_sld (pc' := 974) C hX hbl hbA ((5 * i) + 1) (by omega) (by omega) dL_law_973 rfl ?_
    refine g_aload_n (pc' := 975) C 5 dL_law_974 rfl rfl rfl ?_
    refine g_iload (pc' := 977) C 1 dL_law_975 rfl rfl ?_
    refine g_iconst (pc' := 978) (v := nI 2) C dL_law_977 (by decide) rfl ?_
    refine g_iadd (pc' := 979) (v := nI ((5 * i) + 2)) C dL_law_978 (nI_add _ _) rfl ?_
    refine g_sld (pc' := 980) C hX hbl hbA ((5 * i) + 2) (by omega) (by omega) dL_law_979 rfl ?_
    obtain ⟨qm, fm9, hqm⟩ := LM.recv HM
    refine g_fMi (pc' := 983) (wr := w2 ++ outW κ o0 ou2) (wc := wm) C hA lk_RL_147 (hM_learn l κ u0 (xs ((5 * i) + 1)) (xs ((5 * i) + 2)) HRW HSW HDW HTW HB HK HI (by omega) HM) (List.Perm.refl _) qm hqm rfl rfl (Nat.le_of_ble_eq_true rfl) ⟨(by show 3 + 9 ≤ 2048; decide), (by show 219 + 4 + 40 * 3 ≤ 84000; decide)⟩ ⟨(by show _ ≤ 788806; omega), (by show _ ≤ 6729686; omega)⟩ rfl dL_law_980 rfl (fun r6 w6 h6 => ?_)
    obtain ⟨HM6, hr6⟩ := h6.1 hc
    clear h6
    refine g_istore (pc' := 985) (lv' := [(6, .int r6), (5, .int (nI 0)), (4, .int (nI (5 * i))), (3, .ref o0), (2, .ref u0), (1, .ref x0), (0, .ref b)]) C dL_law_983 (by decide) rfl rfl ?_
    refine g_aload_n (pc' := 986) C 4 dL_law_985 rfl rfl rfl ?_
    obtain ⟨qt, ft, hqt⟩ := LM.recv HM6
    refine g_fP (pc' := 989) C lk_RL_86 (hM_thrown l κ u0 HM6) (fun q hq => List.mem_append_right _ hq) qt hqt rfl rfl (Nat.le_of_ble_eq_true rfl) ⟨(by show 0 + 9 ≤ 2048; decide), (by show 219 + 1 + 40 * 0 ≤ 84000; decide)⟩ ⟨(by show _ ≤ 788806; omega), (by show _ ≤ 6729686; omega)⟩ rfl dL_law_986 rfl (fun r8 h8 => ?_)
    obtain rfl : r8 = nI 0 := h8
    refine g_iload (pc' := 991) C 1 dL_law_989 rfl rfl ?_
    refine g_icmp_eqN (pc' := 994) (tgt := 996) C (by first | assumption | omega) (by first | assumption | omega) dL_law_991 (by decide) rfl (fun _ => ?_) (fun z => absurd z (by decide))
    refine g_iload (pc' := 998) C 1 dL_law_996 rfl rfl ?_
    refine g_if_neN (pc' := 1001) (tgt := 1013) C (by first | assumption | omega) dL_law_998 (by decide) rfl (fun z => absurd z (by decide)) (fun _ => ?_)
    refine g_aload_n (pc' := 1002) C 3 dL_law_1001 rfl rfl rfl ?_
    refine g_iconst (pc' := 1003) (v := nI 0) C dL_law_1002 (by decide) rfl ?_
    refine g_lald (pc' := 1004) C (w2).length out_at 0 (by decide) (by decide) dL_law_1003 rfl ?_
    refine g_iload (pc' := 1006) C 0 dL_law_1004 rfl rfl ?_
    refine g_i2l (pc' := 1007) (v := (r6).toInt64) C dL_law_1006 rfl rfl ?_
    refine g_lcmp (pc' := 1008) C dL_law_1007 rfl ?_
    refine g_val (y := nI 0) (lg_o ho2 hr6) ?_
    refine g_if_eqN (pc' := 1011) (tgt := 1013) C (by first | assumption | omega) dL_law_1008 (by decide) rfl (fun _ => ?_) (fun z => absurd z (by decide))
    refine g_goto (tgt := 1355) C dL_law_1013 (by decide) ?_
    refine g_lv (lv' := [(4, .int (nI (5 * i))), (3, .ref o0), (2, .ref u0), (1, .ref x0), (0, .ref b)]) [2, 3, 4, 5, 6] rfl ?_
    refine g_widen (k' := 100 + 10 * (i + 1)) (n' := 2000 + 50 * (i + 1)) (by omega) (by omega) ?_
    exact KN _ _ _ _ _ _ _ _ _ _ _ _ _ _ _ _ _ _ _ _ _ HRW HSW HDW HTW HB (KW_put HK (by decide) (by omega)) (IW_put HI _ _ ip_1) (by omega) HX2 HM6
  · refine g_perm (ws' := ((w2 ++ outW κ o0 ou2) ++ wm)) (List.perm_append_comm.trans (hp2.append_right wm)) ?_
    refine g_istore (pc' := 967) (lv' := [(5, .int (nI (c_learn (xs ((5 * i) + 1)) (xs ((5 * i) + 2)) th iv))), (4, .int (nI (5 * i))), (3, .ref o0), (2, .ref u0), (1, .ref x0), (0, .ref b)]) C dL_law_965 (by decide) rfl rfl ?_
    refine g_aload_n (pc' := 968) C 3 dL_law_967 rfl rfl rfl ?_
    refine g_aload_n (pc' := 969) C 5 dL_law_968 rfl rfl rfl ?_
    refine g_iload (pc' := 971) C 1 dL_law_969 rfl rfl ?_
    refine g_iconst (pc' := 972) (v := nI 1) C dL_law_971 (by decide) rfl ?_
    refine g_iadd (pc' := 973) (v := nI ((5 * i) + 1)) C dL_law_972 (nI_add _ _) rfl ?_
    refine g_sld (pc' := 974) C hX hbl hbA ((5 * i) + 1) (by omega) (by omega) dL_law_973 rfl ?_
    refine g_aload_n (pc' := 975) C 5 dL_law_974 rfl rfl rfl ?_
    refine g_iload (pc' := 977) C 1 dL_law_975 rfl rfl ?_
    refine g_iconst (pc' := 978) (v := nI 2) C dL_law_977 (by decide) rfl ?_
    refine g_iadd (pc' := 979) (v := nI ((5 * i) + 2)) C dL_law_978 (nI_add _ _) rfl ?_
    refine g_sld (pc' := 980) C hX hbl hbA ((5 * i) + 2) (by omega) (by omega) dL_law_979 rfl ?_
    obtain ⟨qm, fm9, hqm⟩ := LM.recv HM
    refine g_fMi (pc' := 983) (wr := w2 ++ outW κ o0 ou2) (wc := wm) C hA lk_RL_147 (hM_learn l κ u0 (xs ((5 * i) + 1)) (xs ((5 * i) + 2)) HRW HSW HDW HTW HB HK HI (by omega) HM) (List.Perm.refl _) qm hqm rfl rfl (Nat.le_of_ble_eq_true rfl) ⟨(by show 3 + 9 ≤ 2048; decide), (by show 219 + 4 + 40 * 3 ≤ 84000; decide)⟩ ⟨(by show _ ≤ 788806; omega), (by show _ ≤ 6729686; omega)⟩ rfl dL_law_980 rfl (fun r6 w6 h6 => ?_)
    have HM6 := h6.2 hc
    clear h6
    refine g_istore (pc' := 985) (lv' := [(6, .int r6), (5, .int (nI (c_learn (xs ((5 * i) + 1)) (xs ((5 * i) + 2)) th iv))), (4, .int (nI (5 * i))), (3, .ref o0), (2, .ref u0), (1, .ref x0), (0, .ref b)]) C dL_law_983 (by decide) rfl rfl ?_
    refine g_aload_n (pc' := 986) C 4 dL_law_985 rfl rfl rfl ?_
    obtain ⟨qt, ft, hqt⟩ := LM.recv HM6
    refine g_fP (pc' := 989) C lk_RL_86 (hM_thrown l κ u0 HM6) (fun q hq => List.mem_append_right _ hq) qt hqt rfl rfl (Nat.le_of_ble_eq_true rfl) ⟨(by show 0 + 9 ≤ 2048; decide), (by show 219 + 1 + 40 * 0 ≤ 84000; decide)⟩ ⟨(by show _ ≤ 788806; omega), (by show _ ≤ 6729686; omega)⟩ rfl dL_law_986 rfl (fun r8 h8 => ?_)
    obtain rfl : r8 = nI (c_learn (xs ((5 * i) + 1)) (xs ((5 * i) + 2)) th iv) := h8
    refine g_iload (pc' := 991) C 1 dL_law_989 rfl rfl ?_
    refine g_icmp_eq (pc' := 994) (tgt := 996) C dL_law_991 (by decide) rfl (fun c_991_4 => ?_) (fun c_991_4 => absurd c_991_4 (by exact fun q => q rfl))
    refine g_iload (pc' := 998) C 1 dL_law_996 rfl rfl ?_
    refine g_if_ne (pc' := 1001) (tgt := 1013) C dL_law_998 (by decide) rfl (fun c_998_5 => ?_) (fun c_998_5 => absurd c_998_5 (by exact nI_c0 hc cb_learn))
    refine g_goto (tgt := 1355) C dL_law_1013 (by decide) ?_
    refine g_lv (lv' := [(4, .int (nI (5 * i))), (3, .ref o0), (2, .ref u0), (1, .ref x0), (0, .ref b)]) [2, 3, 4, 5, 6] rfl ?_
    refine g_widen (k' := 100 + 10 * (i + 1)) (n' := 2000 + 50 * (i + 1)) (by omega) (by omega) ?_
    exact KN _ _ _ _ _ _ _ _ _ _ _ _ _ _ _ _ _ _ _ _ _ HRW HSW HDW HTW HB HK HI (by omega) HX2 HM6

set_option maxHeartbeats 4000000 in
set_option maxRecDepth 100000 in
theorem law_review (hlc : LC l p s m meth c κ b L xs) (i : Nat) (hi : 5 * i + 5 ≤ L) {t9 : Nat} {wx wm : va_W} {ou : Nat → Int64} {n : Nat} {fk : Nat → Nat} {fs : Nat → Nat} {len : Nat} {fw : Nat → Nat} {ds : Nat} {dr : Nat → Option Nat} {mc : Nat} {th : Nat → Bool} {rc : Nat → Option Nat} {ck : Nat → Nat} {pm : Nat → Nat} {ep : Nat → Nat → Option Nat} {ba : Nat} {dy : Nat} {iv : Nat → Nat → Nat} {dv : Nat → Nat → Nat} (HRW : RW n fk fs) (HSW : SW len fw) (HDW : DW ds dr) (HTW : TW mc th rc ck pm ep) (HB : ba ≤ 50) (HK : KW iv dv) (HI : IW iv) (hdy : dy ≤ 100 * i) (HX : LX κ x0 n fk fs len fw ds dr mc th rc ck pm ep ba dy iv dv wx) (HM : LM κ u0 t9 n fk fs len fw ds dr mc th rc ck pm ep ba dy iv dv wm) (KN : NX p l e s m below meth c κ b x0 u0 o0 i) : LG p l e s m below meth c κ b x0 u0 o0 i 1016 (100 + 10 * i) (2000 + 50 * i) wx ou wm := by
  obtain ⟨C, YY, hX, hbl, hL, hst⟩ := hlc
  have hA : ∀ q, s.heap.size ≤ q → (fun q => s.heap.size ≤ q) q := fun _ h => h
  have hbA : ¬ (fun q => s.heap.size ≤ q) b := Nat.not_le.mpr hbl
  refine g_aload_n (pc' := 1017) C 3 dL_law_1016 rfl rfl rfl ?_
  refine g_aload_n (pc' := 1018) C 4 dL_law_1017 rfl rfl rfl ?_
  refine g_iload (pc' := 1020) C 0 dL_law_1018 rfl rfl ?_
  refine g_iconst (pc' := 1021) (v := nI 1) C dL_law_1020 (by decide) rfl ?_
  refine g_iadd (pc' := 1022) (v := nI ((5 * i) + 1)) C dL_law_1021 (nI_add _ _) rfl ?_
  refine g_sld (pc' := 1023) C hX hbl hbA ((5 * i) + 1) (by omega) (by omega) dL_law_1022 rfl ?_
  refine g_aload_n (pc' := 1024) C 4 dL_law_1023 rfl rfl rfl ?_
  refine g_iload (pc' := 1026) C 0 dL_law_1024 rfl rfl ?_
  refine g_iconst (pc' := 1027) (v := nI 2) C dL_law_1026 (by decide) rfl ?_
  refine g_iadd (pc' := 1028) (v := nI ((5 * i) + 2)) C dL_law_1027 (nI_add _ _) rfl ?_
  refine g_sld (pc' := 1029) C hX hbl hbA ((5 * i) + 2) (by omega) (by omega) dL_law_1028 rfl ?_
  refine g_aload_n (pc' := 1030) C 4 dL_law_1029 rfl rfl rfl ?_
  refine g_iload (pc' := 1032) C 0 dL_law_1030 rfl rfl ?_
  refine g_iconst (pc' := 1033) (v := nI 3) C dL_law_1032 (by decide) rfl ?_
  refine g_iadd (pc' := 1034) (v := nI ((5 * i) + 3)) C dL_law_1033 (nI_add _ _) rfl ?_
  refine g_sld (pc' := 1035) C hX hbl hbA ((5 * i) + 3) (by omega) (by omega) dL_law_1034 rfl ?_
  refine g_if_eq (pc' := 1038) (tgt := 1042) C dL_law_1035 (by decide) rfl (fun c_1035_1 => ?_) (fun c_1035_1 => ?_)
  · refine g_iconst (pc' := 1043) (v := nI 0) C dL_law_1042 (by decide) rfl ?_
    refine g_val (y := b2i false) (by rfl) ?_
    refine g_aload_n (pc' := 1044) C 1 dL_law_1043 rfl rfl rfl ?_
    refine g_fHi (pc' := 1047) (wr := wm) (wc := wx ++ outW κ o0 ou) C hA YY lh_review (hX_review l hst κ x0 o0 ou (xs ((5 * i) + 1)) (xs ((5 * i) + 2)) false HRW HSW HDW HTW HB HK HI (by omega) HX) List.perm_append_comm rfl (Nat.le_of_ble_eq_true rfl) ⟨(by show 5 + 9 ≤ 2048; decide), (by show 219 + 6 + 40 * 5 ≤ 84000; decide)⟩ ⟨(by show _ ≤ 788806; omega), (by show _ ≤ 6729686; omega)⟩ rfl dL_law_1044 rfl (fun r9 w9 h9 => ?_)
    rcases h9 with ⟨hc, rfl, w2, ou2, hp2, HX2, ho2⟩ | ⟨hc, rfl, w2, ou2, hp2, HX2⟩
    · refine g_perm (ws' := ((w2 ++ outW κ o0 ou2) ++ wm)) (List.perm_append_comm.trans (hp2.append_right wm)) ?_
      refine g_istore (pc' := 1049) (lv' := [(5, .int (nI 0)), (4, .int (nI (5 * i))), (3, .ref o0), (2, .ref u0), (1, .ref x0), (0, .ref b)]) C dL_law_1047 (by decide) rfl rfl ?_
      refine g_aload_n (pc' := 1050) C 3 dL_law_1049 rfl rfl rfl ?_
      refine g_aload_n (pc' := 1051) C 5 dL_law_1050 rfl rfl rfl ?_
      refine g_iload (pc' := 1053) C 1 dL_law_1051 rfl rfl ?_
      refine g_iconst (pc' := 1054) (v := nI 1) C dL_law_1053 (by decide) rfl ?_
      refine g_iadd (pc' := 1055) (v := nI ((5 * i) + 1)) C dL_law_1054 (nI_add _ _) rfl ?_
      refine g_sld (pc' := 1056) C hX hbl hbA ((5 * i) + 1) (by omega) (by omega) dL_law_1055 rfl ?_
      refine g_aload_n (pc' := 1057) C 5 dL_law_1056 rfl rfl rfl ?_
      refine g_iload (pc' := 1059) C 1 dL_law_1057 rfl rfl ?_
      refine g_iconst (pc' := 1060) (v := nI 2) C dL_law_1059 (by decide) rfl ?_
      refine g_iadd (pc' := 1061) (v := nI ((5 * i) + 2)) C dL_law_1060 (nI_add _ _) rfl ?_
      refine g_sld (pc' := 1062) C hX hbl hbA ((5 * i) + 2) (by omega) (by omega) dL_law_1061 rfl ?_
      refine g_aload_n (pc' := 1063) C 5 dL_law_1062 rfl rfl rfl ?_
      refine g_iload (pc' := 1065) C 1 dL_law_1063 rfl rfl ?_
      refine g_iconst (pc' := 1066) (v := nI 3) C dL_law_1065 (by decide) rfl ?_
      refine g_iadd (pc' := 1067) (v := nI ((5 * i) + 3)) C dL_law_1066 (nI_add _ _) rfl ?_
      refine g_sld (pc' := 1068) C hX hbl hbA ((5 * i) + 3) (by omega) (by omega) dL_law_1067 rfl ?_
      refine g_if_eq (pc' := 1071) (tgt := 1075) C dL_law_1068 (by decide) rfl (fun c_1068_2 => ?_) (fun c_1068_2 => absurd c_1068_2 (by exact fun q => q c_1035_1))
      refine g_iconst (pc' := 1076) (v := nI 0) C dL_law_1075 (by decide) rfl ?_
      refine g_val (y := b2i false) (by rfl) ?_
      obtain ⟨qm, fm9, hqm⟩ := LM.recv HM
      refine g_fMi (pc' := 1079) (wr := w2 ++ outW κ o0 ou2) (wc := wm) C hA lk_RL_151 (hM_review l κ u0 (xs ((5 * i) + 1)) (xs ((5 * i) + 2)) false HRW HSW HDW HTW HB HK HI (by omega) HM) (List.Perm.refl _) qm hqm rfl rfl (Nat.le_of_ble_eq_true rfl) ⟨(by show 3 + 9 ≤ 2048; decide), (by show 219 + 5 + 40 * 3 ≤ 84000; decide)⟩ ⟨(by show _ ≤ 788806; omega), (by show _ ≤ 6729686; omega)⟩ rfl dL_law_1076 rfl (fun r6 w6 h6 => ?_)
      obtain ⟨HM6, hr6⟩ := h6.1 hc
      clear h6
      refine g_istore (pc' := 1081) (lv' := [(6, .int r6), (5, .int (nI 0)), (4, .int (nI (5 * i))), (3, .ref o0), (2, .ref u0), (1, .ref x0), (0, .ref b)]) C dL_law_1079 (by decide) rfl rfl ?_
      refine g_aload_n (pc' := 1082) C 4 dL_law_1081 rfl rfl rfl ?_
      obtain ⟨qt, ft, hqt⟩ := LM.recv HM6
      refine g_fP (pc' := 1085) C lk_RL_86 (hM_thrown l κ u0 HM6) (fun q hq => List.mem_append_right _ hq) qt hqt rfl rfl (Nat.le_of_ble_eq_true rfl) ⟨(by show 0 + 9 ≤ 2048; decide), (by show 219 + 1 + 40 * 0 ≤ 84000; decide)⟩ ⟨(by show _ ≤ 788806; omega), (by show _ ≤ 6729686; omega)⟩ rfl dL_law_1082 rfl (fun r8 h8 => ?_)
      obtain rfl : r8 = nI 0 := h8
      refine g_iload (pc' := 1087) C 1 dL_law_1085 rfl rfl ?_
      refine g_icmp_eqN (pc' := 1090) (tgt := 1092) C (by first | assumption | omega) (by first | assumption | omega) dL_law_1087 (by decide) rfl (fun _ => ?_) (fun z => absurd z (by decide))
      refine g_iload (pc' := 1094) C 1 dL_law_1092 rfl rfl ?_
      refine g_if_neN (pc' := 1097) (tgt := 1109) C (by first | assumption | omega) dL_law_1094 (by decide) rfl (fun z => absurd z (by decide)) (fun _ => ?_)
      refine g_aload_n (pc' := 1098) C 3 dL_law_1097 rfl rfl rfl ?_
      refine g_iconst (pc' := 1099) (v := nI 0) C dL_law_1098 (by decide) rfl ?_
      refine g_lald (pc' := 1100) C (w2).length out_at 0 (by decide) (by decide) dL_law_1099 rfl ?_
      refine g_iload (pc' := 1102) C 0 dL_law_1100 rfl rfl ?_
      refine g_i2l (pc' := 1103) (v := (r6).toInt64) C dL_law_1102 rfl rfl ?_
      refine g_lcmp (pc' := 1104) C dL_law_1103 rfl ?_
      refine g_val (y := nI 0) (lg_o ho2 hr6) ?_
      refine g_if_eqN (pc' := 1107) (tgt := 1109) C (by first | assumption | omega) dL_law_1104 (by decide) rfl (fun _ => ?_) (fun z => absurd z (by decide))
      refine g_goto (tgt := 1355) C dL_law_1109 (by decide) ?_
      refine g_lv (lv' := [(4, .int (nI (5 * i))), (3, .ref o0), (2, .ref u0), (1, .ref x0), (0, .ref b)]) [2, 3, 4, 5, 6] rfl ?_
      refine g_widen (k' := 100 + 10 * (i + 1)) (n' := 2000 + 50 * (i + 1)) (by omega) (by omega) ?_
      exact KN _ _ _ _ _ _ _ _ _ _ _ _ _ _ _ _ _ _ _ _ _ HRW HSW HDW HTW HB (KW_put HK rvI_le (Nat.lt_of_le_of_lt (Nat.add_le_add_left rvI_le _) (by omega))) (IW_put HI _ _ (ip_rvI (HI _ _) (crv_0 hc).2.2)) (by omega) HX2 HM6
    · refine g_perm (ws' := ((w2 ++ outW κ o0 ou2) ++ wm)) (List.perm_append_comm.trans (hp2.append_right wm)) ?_
      refine g_istore (pc' := 1049) (lv' := [(5, .int (nI (c_review (xs ((5 * i) + 1)) (xs ((5 * i) + 2)) th iv dv dy))), (4, .int (nI (5 * i))), (3, .ref o0), (2, .ref u0), (1, .ref x0), (0, .ref b)]) C dL_law_1047 (by decide) rfl rfl ?_
      refine g_aload_n (pc' := 1050) C 3 dL_law_1049 rfl rfl rfl ?_
      refine g_aload_n (pc' := 1051) C 5 dL_law_1050 rfl rfl rfl ?_
      refine g_iload (pc' := 1053) C 1 dL_law_1051 rfl rfl ?_
      refine g_iconst (pc' := 1054) (v := nI 1) C dL_law_1053 (by decide) rfl ?_
      refine g_iadd (pc' := 1055) (v := nI ((5 * i) + 1)) C dL_law_1054 (nI_add _ _) rfl ?_
      refine g_sld (pc' := 1056) C hX hbl hbA ((5 * i) + 1) (by omega) (by omega) dL_law_1055 rfl ?_
      refine g_aload_n (pc' := 1057) C 5 dL_law_1056 rfl rfl rfl ?_
      refine g_iload (pc' := 1059) C 1 dL_law_1057 rfl rfl ?_
      refine g_iconst (pc' := 1060) (v := nI 2) C dL_law_1059 (by decide) rfl ?_
      refine g_iadd (pc' := 1061) (v := nI ((5 * i) + 2)) C dL_law_1060 (nI_add _ _) rfl ?_
      refine g_sld (pc' := 1062) C hX hbl hbA ((5 * i) + 2) (by omega) (by omega) dL_law_1061 rfl ?_
      refine g_aload_n (pc' := 1063) C 5 dL_law_1062 rfl rfl rfl ?_
      refine g_iload (pc' := 1065) C 1 dL_law_1063 rfl rfl ?_
      refine g_iconst (pc' := 1066) (v := nI 3) C dL_law_1065 (by decide) rfl ?_
      refine g_iadd (pc' := 1067) (v := nI ((5 * i) + 3)) C dL_law_1066 (nI_add _ _) rfl ?_
      refine g_sld (pc' := 1068) C hX hbl hbA ((5 * i) + 3) (by omega) (by omega) dL_law_1067 rfl ?_
      refine g_if_eq (pc' := 1071) (tgt := 1075) C dL_law_1068 (by decide) rfl (fun c_1068_6 => ?_) (fun c_1068_6 => absurd c_1068_6 (by exact fun q => q c_1035_1))
      refine g_iconst (pc' := 1076) (v := nI 0) C dL_law_1075 (by decide) rfl ?_
      refine g_val (y := b2i false) (by rfl) ?_
      obtain ⟨qm, fm9, hqm⟩ := LM.recv HM
      refine g_fMi (pc' := 1079) (wr := w2 ++ outW κ o0 ou2) (wc := wm) C hA lk_RL_151 (hM_review l κ u0 (xs ((5 * i) + 1)) (xs ((5 * i) + 2)) false HRW HSW HDW HTW HB HK HI (by omega) HM) (List.Perm.refl _) qm hqm rfl rfl (Nat.le_of_ble_eq_true rfl) ⟨(by show 3 + 9 ≤ 2048; decide), (by show 219 + 5 + 40 * 3 ≤ 84000; decide)⟩ ⟨(by show _ ≤ 788806; omega), (by show _ ≤ 6729686; omega)⟩ rfl dL_law_1076 rfl (fun r6 w6 h6 => ?_)
      have HM6 := h6.2 hc
      clear h6
      refine g_istore (pc' := 1081) (lv' := [(6, .int r6), (5, .int (nI (c_review (xs ((5 * i) + 1)) (xs ((5 * i) + 2)) th iv dv dy))), (4, .int (nI (5 * i))), (3, .ref o0), (2, .ref u0), (1, .ref x0), (0, .ref b)]) C dL_law_1079 (by decide) rfl rfl ?_
      refine g_aload_n (pc' := 1082) C 4 dL_law_1081 rfl rfl rfl ?_
      obtain ⟨qt, ft, hqt⟩ := LM.recv HM6
      refine g_fP (pc' := 1085) C lk_RL_86 (hM_thrown l κ u0 HM6) (fun q hq => List.mem_append_right _ hq) qt hqt rfl rfl (Nat.le_of_ble_eq_true rfl) ⟨(by show 0 + 9 ≤ 2048; decide), (by show 219 + 1 + 40 * 0 ≤ 84000; decide)⟩ ⟨(by show _ ≤ 788806; omega), (by show _ ≤ 6729686; omega)⟩ rfl dL_law_1082 rfl (fun r8 h8 => ?_)
      obtain rfl : r8 = nI (c_review (xs ((5 * i) + 1)) (xs ((5 * i) + 2)) th iv dv dy) := h8
      refine g_iload (pc' := 1087) C 1 dL_law_1085 rfl rfl ?_
      refine g_icmp_eq (pc' := 1090) (tgt := 1092) C dL_law_1087 (by decide) rfl (fun c_1087_7 => ?_) (fun c_1087_7 => absurd c_1087_7 (by exact fun q => q rfl))
      refine g_iload (pc' := 1094) C 1 dL_law_1092 rfl rfl ?_
      refine g_if_ne (pc' := 1097) (tgt := 1109) C dL_law_1094 (by decide) rfl (fun c_1094_8 => ?_) (fun c_1094_8 => absurd c_1094_8 (by exact nI_c0 hc cb_review))
      refine g_goto (tgt := 1355) C dL_law_1109 (by decide) ?_
      refine g_lv (lv' := [(4, .int (nI (5 * i))), (3, .ref o0), (2, .ref u0), (1, .ref x0), (0, .ref b)]) [2, 3, 4, 5, 6] rfl ?_
      refine g_widen (k' := 100 + 10 * (i + 1)) (n' := 2000 + 50 * (i + 1)) (by omega) (by omega) ?_
      exact KN _ _ _ _ _ _ _ _ _ _ _ _ _ _ _ _ _ _ _ _ _ HRW HSW HDW HTW HB HK HI (by omega) HX2 HM6
  · refine g_iconst (pc' := 1039) (v := nI 1) C dL_law_1038 (by decide) rfl ?_
    refine g_goto (tgt := 1043) C dL_law_1039 (by decide) ?_
    refine g_val (y := b2i true) (by rfl) ?_
    refine g_aload_n (pc' := 1044) C 1 dL_law_1043 rfl rfl rfl ?_
    refine g_fHi (pc' := 1047) (wr := wm) (wc := wx ++ outW κ o0 ou) C hA YY lh_review (hX_review l hst κ x0 o0 ou (xs ((5 * i) + 1)) (xs ((5 * i) + 2)) true HRW HSW HDW HTW HB HK HI (by omega) HX) List.perm_append_comm rfl (Nat.le_of_ble_eq_true rfl) ⟨(by show 5 + 9 ≤ 2048; decide), (by show 219 + 6 + 40 * 5 ≤ 84000; decide)⟩ ⟨(by show _ ≤ 788806; omega), (by show _ ≤ 6729686; omega)⟩ rfl dL_law_1044 rfl (fun r9 w9 h9 => ?_)
    rcases h9 with ⟨hc, rfl, w2, ou2, hp2, HX2, ho2⟩ | ⟨hc, rfl, w2, ou2, hp2, HX2⟩
    · refine g_perm (ws' := ((w2 ++ outW κ o0 ou2) ++ wm)) (List.perm_append_comm.trans (hp2.append_right wm)) ?_
      refine g_istore (pc' := 1049) (lv' := [(5, .int (nI 0)), (4, .int (nI (5 * i))), (3, .ref o0), (2, .ref u0), (1, .ref x0), (0, .ref b)]) C dL_law_1047 (by decide) rfl rfl ?_
      refine g_aload_n (pc' := 1050) C 3 dL_law_1049 rfl rfl rfl ?_
      refine g_aload_n (pc' := 1051) C 5 dL_law_1050 rfl rfl rfl ?_
      refine g_iload (pc' := 1053) C 1 dL_law_1051 rfl rfl ?_
      refine g_iconst (pc' := 1054) (v := nI 1) C dL_law_1053 (by decide) rfl ?_
      refine g_iadd (pc' := 1055) (v := nI ((5 * i) + 1)) C dL_law_1054 (nI_add _ _) rfl ?_
      refine g_sld (pc' := 1056) C hX hbl hbA ((5 * i) + 1) (by omega) (by omega) dL_law_1055 rfl ?_
      refine g_aload_n (pc' := 1057) C 5 dL_law_1056 rfl rfl rfl ?_
      refine g_iload (pc' := 1059) C 1 dL_law_1057 rfl rfl ?_
      refine g_iconst (pc' := 1060) (v := nI 2) C dL_law_1059 (by decide) rfl ?_
      refine g_iadd (pc' := 1061) (v := nI ((5 * i) + 2)) C dL_law_1060 (nI_add _ _) rfl ?_
      refine g_sld (pc' := 1062) C hX hbl hbA ((5 * i) + 2) (by omega) (by omega) dL_law_1061 rfl ?_
      refine g_aload_n (pc' := 1063) C 5 dL_law_1062 rfl rfl rfl ?_
      refine g_iload (pc' := 1065) C 1 dL_law_1063 rfl rfl ?_
      refine g_iconst (pc' := 1066) (v := nI 3) C dL_law_1065 (by decide) rfl ?_
      refine g_iadd (pc' := 1067) (v := nI ((5 * i) + 3)) C dL_law_1066 (nI_add _ _) rfl ?_
      refine g_sld (pc' := 1068) C hX hbl hbA ((5 * i) + 3) (by omega) (by omega) dL_law_1067 rfl ?_
      refine g_if_eq (pc' := 1071) (tgt := 1075) C dL_law_1068 (by decide) rfl (fun c_1068_9 => absurd c_1068_9 (by exact c_1035_1)) (fun c_1068_9 => ?_)
      refine g_iconst (pc' := 1072) (v := nI 1) C dL_law_1071 (by decide) rfl ?_
      refine g_goto (tgt := 1076) C dL_law_1072 (by decide) ?_
      refine g_val (y := b2i true) (by rfl) ?_
      obtain ⟨qm, fm9, hqm⟩ := LM.recv HM
      refine g_fMi (pc' := 1079) (wr := w2 ++ outW κ o0 ou2) (wc := wm) C hA lk_RL_151 (hM_review l κ u0 (xs ((5 * i) + 1)) (xs ((5 * i) + 2)) true HRW HSW HDW HTW HB HK HI (by omega) HM) (List.Perm.refl _) qm hqm rfl rfl (Nat.le_of_ble_eq_true rfl) ⟨(by show 3 + 9 ≤ 2048; decide), (by show 219 + 5 + 40 * 3 ≤ 84000; decide)⟩ ⟨(by show _ ≤ 788806; omega), (by show _ ≤ 6729686; omega)⟩ rfl dL_law_1076 rfl (fun r6 w6 h6 => ?_)
      obtain ⟨HM6, hr6⟩ := h6.1 hc
      clear h6
      refine g_istore (pc' := 1081) (lv' := [(6, .int r6), (5, .int (nI 0)), (4, .int (nI (5 * i))), (3, .ref o0), (2, .ref u0), (1, .ref x0), (0, .ref b)]) C dL_law_1079 (by decide) rfl rfl ?_
      refine g_aload_n (pc' := 1082) C 4 dL_law_1081 rfl rfl rfl ?_
      obtain ⟨qt, ft, hqt⟩ := LM.recv HM6
      refine g_fP (pc' := 1085) C lk_RL_86 (hM_thrown l κ u0 HM6) (fun q hq => List.mem_append_right _ hq) qt hqt rfl rfl (Nat.le_of_ble_eq_true rfl) ⟨(by show 0 + 9 ≤ 2048; decide), (by show 219 + 1 + 40 * 0 ≤ 84000; decide)⟩ ⟨(by show _ ≤ 788806; omega), (by show _ ≤ 6729686; omega)⟩ rfl dL_law_1082 rfl (fun r8 h8 => ?_)
      obtain rfl : r8 = nI 0 := h8
      refine g_iload (pc' := 1087) C 1 dL_law_1085 rfl rfl ?_
      refine g_icmp_eqN (pc' := 1090) (tgt := 1092) C (by first | assumption | omega) (by first | assumption | omega) dL_law_1087 (by decide) rfl (fun _ => ?_) (fun z => absurd z (by decide))
      refine g_iload (pc' := 1094) C 1 dL_law_1092 rfl rfl ?_
      refine g_if_neN (pc' := 1097) (tgt := 1109) C (by first | assumption | omega) dL_law_1094 (by decide) rfl (fun z => absurd z (by decide)) (fun _ => ?_)
      refine g_aload_n (pc' := 1098) C 3 dL_law_1097 rfl rfl rfl ?_
      refine g_iconst (pc' := 1099) (v := nI 0) C dL_law_1098 (by decide) rfl ?_
      refine g_lald (pc' := 1100) C (w2).length out_at 0 (by decide) (by decide) dL_law_1099 rfl ?_
      refine g_iload (pc' := 1102) C 0 dL_law_1100 rfl rfl ?_
      refine g_i2l (pc' := 1103) (v := (r6).toInt64) C dL_law_1102 rfl rfl ?_
      refine g_lcmp (pc' := 1104) C dL_law_1103 rfl ?_
      refine g_val (y := nI 0) (lg_o ho2 hr6) ?_
      refine g_if_eqN (pc' := 1107) (tgt := 1109) C (by first | assumption | omega) dL_law_1104 (by decide) rfl (fun _ => ?_) (fun z => absurd z (by decide))
      refine g_goto (tgt := 1355) C dL_law_1109 (by decide) ?_
      refine g_lv (lv' := [(4, .int (nI (5 * i))), (3, .ref o0), (2, .ref u0), (1, .ref x0), (0, .ref b)]) [2, 3, 4, 5, 6] rfl ?_
      refine g_widen (k' := 100 + 10 * (i + 1)) (n' := 2000 + 50 * (i + 1)) (by omega) (by omega) ?_
      exact KN _ _ _ _ _ _ _ _ _ _ _ _ _ _ _ _ _ _ _ _ _ HRW HSW HDW HTW HB (KW_put HK rvI_le (Nat.lt_of_le_of_lt (Nat.add_le_add_left rvI_le _) (by omega))) (IW_put HI _ _ (ip_rvI (HI _ _) (crv_0 hc).2.2)) (by omega) HX2 HM6
    · refine g_perm (ws' := ((w2 ++ outW κ o0 ou2) ++ wm)) (List.perm_append_comm.trans (hp2.append_right wm)) ?_
      refine g_istore (pc' := 1049) (lv' := [(5, .int (nI (c_review (xs ((5 * i) + 1)) (xs ((5 * i) + 2)) th iv dv dy))), (4, .int (nI (5 * i))), (3, .ref o0), (2, .ref u0), (1, .ref x0), (0, .ref b)]) C dL_law_1047 (by decide) rfl rfl ?_
      refine g_aload_n (pc' := 1050) C 3 dL_law_1049 rfl rfl rfl ?_
      refine g_aload_n (pc' := 1051) C 5 dL_law_1050 rfl rfl rfl ?_
      refine g_iload (pc' := 1053) C 1 dL_law_1051 rfl rfl ?_
      refine g_iconst (pc' := 1054) (v := nI 1) C dL_law_1053 (by decide) rfl ?_
      refine g_iadd (pc' := 1055) (v := nI ((5 * i) + 1)) C dL_law_1054 (nI_add _ _) rfl ?_
      refine g_sld (pc' := 1056) C hX hbl hbA ((5 * i) + 1) (by omega) (by omega) dL_law_1055 rfl ?_
      refine g_aload_n (pc' := 1057) C 5 dL_law_1056 rfl rfl rfl ?_
      refine g_iload (pc' := 1059) C 1 dL_law_1057 rfl rfl ?_
      refine g_iconst (pc' := 1060) (v := nI 2) C dL_law_1059 (by decide) rfl ?_
      refine g_iadd (pc' := 1061) (v := nI ((5 * i) + 2)) C dL_law_1060 (nI_add _ _) rfl ?_
      refine g_sld (pc' := 1062) C hX hbl hbA ((5 * i) + 2) (by omega) (by omega) dL_law_1061 rfl ?_
      refine g_aload_n (pc' := 1063) C 5 dL_law_1062 rfl rfl rfl ?_
      refine g_iload (pc' := 1065) C 1 dL_law_1063 rfl rfl ?_
      refine g_iconst (pc' := 1066) (v := nI 3) C dL_law_1065 (by decide) rfl ?_
      refine g_iadd (pc' := 1067) (v := nI ((5 * i) + 3)) C dL_law_1066 (nI_add _ _) rfl ?_
      refine g_sld (pc' := 1068) C hX hbl hbA ((5 * i) + 3) (by omega) (by omega) dL_law_1067 rfl ?_
      refine g_if_eq (pc' := 1071) (tgt := 1075) C dL_law_1068 (by decide) rfl (fun c_1068_13 => absurd c_1068_13 (by exact c_1035_1)) (fun c_1068_13 => ?_)
      refine g_iconst (pc' := 1072) (v := nI 1) C dL_law_1071 (by decide) rfl ?_
      refine g_goto (tgt := 1076) C dL_law_1072 (by decide) ?_
      refine g_val (y := b2i true) (by rfl) ?_
      obtain ⟨qm, fm9, hqm⟩ := LM.recv HM
      refine g_fMi (pc' := 1079) (wr := w2 ++ outW κ o0 ou2) (wc := wm) C hA lk_RL_151 (hM_review l κ u0 (xs ((5 * i) + 1)) (xs ((5 * i) + 2)) true HRW HSW HDW HTW HB HK HI (by omega) HM) (List.Perm.refl _) qm hqm rfl rfl (Nat.le_of_ble_eq_true rfl) ⟨(by show 3 + 9 ≤ 2048; decide), (by show 219 + 5 + 40 * 3 ≤ 84000; decide)⟩ ⟨(by show _ ≤ 788806; omega), (by show _ ≤ 6729686; omega)⟩ rfl dL_law_1076 rfl (fun r6 w6 h6 => ?_)
      have HM6 := h6.2 hc
      clear h6
      refine g_istore (pc' := 1081) (lv' := [(6, .int r6), (5, .int (nI (c_review (xs ((5 * i) + 1)) (xs ((5 * i) + 2)) th iv dv dy))), (4, .int (nI (5 * i))), (3, .ref o0), (2, .ref u0), (1, .ref x0), (0, .ref b)]) C dL_law_1079 (by decide) rfl rfl ?_
      refine g_aload_n (pc' := 1082) C 4 dL_law_1081 rfl rfl rfl ?_
      obtain ⟨qt, ft, hqt⟩ := LM.recv HM6
      refine g_fP (pc' := 1085) C lk_RL_86 (hM_thrown l κ u0 HM6) (fun q hq => List.mem_append_right _ hq) qt hqt rfl rfl (Nat.le_of_ble_eq_true rfl) ⟨(by show 0 + 9 ≤ 2048; decide), (by show 219 + 1 + 40 * 0 ≤ 84000; decide)⟩ ⟨(by show _ ≤ 788806; omega), (by show _ ≤ 6729686; omega)⟩ rfl dL_law_1082 rfl (fun r8 h8 => ?_)
      obtain rfl : r8 = nI (c_review (xs ((5 * i) + 1)) (xs ((5 * i) + 2)) th iv dv dy) := h8
      refine g_iload (pc' := 1087) C 1 dL_law_1085 rfl rfl ?_
      refine g_icmp_eq (pc' := 1090) (tgt := 1092) C dL_law_1087 (by decide) rfl (fun c_1087_14 => ?_) (fun c_1087_14 => absurd c_1087_14 (by exact fun q => q rfl))
      refine g_iload (pc' := 1094) C 1 dL_law_1092 rfl rfl ?_
      refine g_if_ne (pc' := 1097) (tgt := 1109) C dL_law_1094 (by decide) rfl (fun c_1094_15 => ?_) (fun c_1094_15 => absurd c_1094_15 (by exact nI_c0 hc cb_review))
      refine g_goto (tgt := 1355) C dL_law_1109 (by decide) ?_
      refine g_lv (lv' := [(4, .int (nI (5 * i))), (3, .ref o0), (2, .ref u0), (1, .ref x0), (0, .ref b)]) [2, 3, 4, 5, 6] rfl ?_
      refine g_widen (k' := 100 + 10 * (i + 1)) (n' := 2000 + 50 * (i + 1)) (by omega) (by omega) ?_
      exact KN _ _ _ _ _ _ _ _ _ _ _ _ _ _ _ _ _ _ _ _ _ HRW HSW HDW HTW HB HK HI (by omega) HX2 HM6

set_option maxHeartbeats 4000000 in
set_option maxRecDepth 100000 in
theorem law_knows (hlc : LC l p s m meth c κ b L xs) (i : Nat) (hi : 5 * i + 5 ≤ L) {t9 : Nat} {wx wm : va_W} {ou : Nat → Int64} {n : Nat} {fk : Nat → Nat} {fs : Nat → Nat} {len : Nat} {fw : Nat → Nat} {ds : Nat} {dr : Nat → Option Nat} {mc : Nat} {th : Nat → Bool} {rc : Nat → Option Nat} {ck : Nat → Nat} {pm : Nat → Nat} {ep : Nat → Nat → Option Nat} {ba : Nat} {dy : Nat} {iv : Nat → Nat → Nat} {dv : Nat → Nat → Nat} (HRW : RW n fk fs) (HSW : SW len fw) (HDW : DW ds dr) (HTW : TW mc th rc ck pm ep) (HB : ba ≤ 50) (HK : KW iv dv) (HI : IW iv) (hdy : dy ≤ 100 * i) (HX : LX κ x0 n fk fs len fw ds dr mc th rc ck pm ep ba dy iv dv wx) (HM : LM κ u0 t9 n fk fs len fw ds dr mc th rc ck pm ep ba dy iv dv wm) (KN : NX p l e s m below meth c κ b x0 u0 o0 i) : LG p l e s m below meth c κ b x0 u0 o0 i 1112 (100 + 10 * i) (2000 + 50 * i) wx ou wm := by
  obtain ⟨C, YY, hX, hbl, hL, hst⟩ := hlc
  have hA : ∀ q, s.heap.size ≤ q → (fun q => s.heap.size ≤ q) q := fun _ h => h
  have hbA : ¬ (fun q => s.heap.size ≤ q) b := Nat.not_le.mpr hbl
  refine g_aload_n (pc' := 1113) C 3 dL_law_1112 rfl rfl rfl ?_
  refine g_aload_n (pc' := 1114) C 4 dL_law_1113 rfl rfl rfl ?_
  refine g_iload (pc' := 1116) C 0 dL_law_1114 rfl rfl ?_
  refine g_iconst (pc' := 1117) (v := nI 1) C dL_law_1116 (by decide) rfl ?_
  refine g_iadd (pc' := 1118) (v := nI ((5 * i) + 1)) C dL_law_1117 (nI_add _ _) rfl ?_
  refine g_sld (pc' := 1119) C hX hbl hbA ((5 * i) + 1) (by omega) (by omega) dL_law_1118 rfl ?_
  refine g_aload_n (pc' := 1120) C 4 dL_law_1119 rfl rfl rfl ?_
  refine g_iload (pc' := 1122) C 0 dL_law_1120 rfl rfl ?_
  refine g_iconst (pc' := 1123) (v := nI 2) C dL_law_1122 (by decide) rfl ?_
  refine g_iadd (pc' := 1124) (v := nI ((5 * i) + 2)) C dL_law_1123 (nI_add _ _) rfl ?_
  refine g_sld (pc' := 1125) C hX hbl hbA ((5 * i) + 2) (by omega) (by omega) dL_law_1124 rfl ?_
  refine g_aload_n (pc' := 1126) C 1 dL_law_1125 rfl rfl rfl ?_
  refine g_fHi (pc' := 1129) (wr := wm) (wc := wx ++ outW κ o0 ou) C hA YY lh_knows (hX_knows l hst κ x0 o0 ou (xs ((5 * i) + 1)) (xs ((5 * i) + 2)) HRW HSW HDW HTW HB HK HI (by omega) HX) List.perm_append_comm rfl (Nat.le_of_ble_eq_true rfl) ⟨(by show 3 + 9 ≤ 2048; decide), (by show 219 + 5 + 40 * 3 ≤ 84000; decide)⟩ ⟨(by show _ ≤ 788806; omega), (by show _ ≤ 6729686; omega)⟩ rfl dL_law_1126 rfl (fun r9 w9 h9 => ?_)
  rcases h9 with ⟨hc, rfl, w2, ou2, hp2, HX2, ho2⟩ | ⟨hc, rfl, w2, ou2, hp2, HX2⟩
  · refine g_perm (ws' := ((w2 ++ outW κ o0 ou2) ++ wm)) (List.perm_append_comm.trans (hp2.append_right wm)) ?_
    refine g_istore (pc' := 1131) (lv' := [(5, .int (nI 0)), (4, .int (nI (5 * i))), (3, .ref o0), (2, .ref u0), (1, .ref x0), (0, .ref b)]) C dL_law_1129 (by decide) rfl rfl ?_
    refine g_aload_n (pc' := 1132) C 3 dL_law_1131 rfl rfl rfl ?_
    refine g_aload_n (pc' := 1133) C 5 dL_law_1132 rfl rfl rfl ?_
    refine g_iload (pc' := 1135) C 1 dL_law_1133 rfl rfl ?_
    refine g_iconst (pc' := 1136) (v := nI 1) C dL_law_1135 (by decide) rfl ?_
    refine g_iadd (pc' := 1137) (v := nI ((5 * i) + 1)) C dL_law_1136 (nI_add _ _) rfl ?_
    refine g_sld (pc' := 1138) C hX hbl hbA ((5 * i) + 1) (by omega) (by omega) dL_law_1137 rfl ?_
    refine g_aload_n (pc' := 1139) C 5 dL_law_1138 rfl rfl rfl ?_
    refine g_iload (pc' := 1141) C 1 dL_law_1139 rfl rfl ?_
    refine g_iconst (pc' := 1142) (v := nI 2) C dL_law_1141 (by decide) rfl ?_
    refine g_iadd (pc' := 1143) (v := nI ((5 * i) + 2)) C dL_law_1142 (nI_add _ _) rfl ?_
    refine g_sld (pc' := 1144) C hX hbl hbA ((5 * i) + 2) (by omega) (by omega) dL_law_1143 rfl ?_
    obtain ⟨qm, fm9, hqm⟩ := LM.recv HM
    refine g_fMi (pc' := 1147) (wr := w2 ++ outW κ o0 ou2) (wc := wm) C hA lk_RL_154 (hM_knows l κ u0 (xs ((5 * i) + 1)) (xs ((5 * i) + 2)) HRW HSW HDW HTW HB HK HI (by omega) HM) (List.Perm.refl _) qm hqm rfl rfl (Nat.le_of_ble_eq_true rfl) ⟨(by show 3 + 9 ≤ 2048; decide), (by show 219 + 3 + 40 * 3 ≤ 84000; decide)⟩ ⟨(by show _ ≤ 788806; omega), (by show _ ≤ 6729686; omega)⟩ rfl dL_law_1144 rfl (fun r6 w6 h6 => ?_)
    obtain ⟨HM6, hr6⟩ := h6.1 hc
    clear h6
    refine g_istore (pc' := 1149) (lv' := [(6, .int r6), (5, .int (nI 0)), (4, .int (nI (5 * i))), (3, .ref o0), (2, .ref u0), (1, .ref x0), (0, .ref b)]) C dL_law_1147 (by decide) rfl rfl ?_
    refine g_aload_n (pc' := 1150) C 4 dL_law_1149 rfl rfl rfl ?_
    obtain ⟨qt, ft, hqt⟩ := LM.recv HM6
    refine g_fP (pc' := 1153) C lk_RL_86 (hM_thrown l κ u0 HM6) (fun q hq => List.mem_append_right _ hq) qt hqt rfl rfl (Nat.le_of_ble_eq_true rfl) ⟨(by show 0 + 9 ≤ 2048; decide), (by show 219 + 1 + 40 * 0 ≤ 84000; decide)⟩ ⟨(by show _ ≤ 788806; omega), (by show _ ≤ 6729686; omega)⟩ rfl dL_law_1150 rfl (fun r8 h8 => ?_)
    obtain rfl : r8 = nI 0 := h8
    refine g_iload (pc' := 1155) C 1 dL_law_1153 rfl rfl ?_
    refine g_icmp_eqN (pc' := 1158) (tgt := 1160) C (by first | assumption | omega) (by first | assumption | omega) dL_law_1155 (by decide) rfl (fun _ => ?_) (fun z => absurd z (by decide))
    refine g_iload (pc' := 1162) C 1 dL_law_1160 rfl rfl ?_
    refine g_if_neN (pc' := 1165) (tgt := 1184) C (by first | assumption | omega) dL_law_1162 (by decide) rfl (fun z => absurd z (by decide)) (fun _ => ?_)
    refine g_aload_n (pc' := 1166) C 3 dL_law_1165 rfl rfl rfl ?_
    refine g_iconst (pc' := 1167) (v := nI 0) C dL_law_1166 (by decide) rfl ?_
    refine g_lald (pc' := 1168) C (w2).length out_at 0 (by decide) (by decide) dL_law_1167 rfl ?_
    refine g_iload (pc' := 1170) C 0 dL_law_1168 rfl rfl ?_
    refine g_if_eq (pc' := 1173) (tgt := 1177) C dL_law_1170 (by decide) rfl (fun c_1170_3 => ?_) (fun c_1170_3 => ?_)
    · refine g_lconst (pc' := 1178) (v := 0) C dL_law_1177 (by decide) rfl ?_
      refine g_lcmp (pc' := 1179) C dL_law_1178 rfl ?_
      refine g_val (y := nI 0) (lg_b0 ho2 hr6 c_1170_3) ?_
      refine g_if_eqN (pc' := 1182) (tgt := 1184) C (by first | assumption | omega) dL_law_1179 (by decide) rfl (fun _ => ?_) (fun z => absurd z (by decide))
      refine g_goto (tgt := 1355) C dL_law_1184 (by decide) ?_
      refine g_lv (lv' := [(4, .int (nI (5 * i))), (3, .ref o0), (2, .ref u0), (1, .ref x0), (0, .ref b)]) [2, 3, 4, 5, 6] rfl ?_
      refine g_widen (k' := 100 + 10 * (i + 1)) (n' := 2000 + 50 * (i + 1)) (by omega) (by omega) ?_
      exact KN _ _ _ _ _ _ _ _ _ _ _ _ _ _ _ _ _ _ _ _ _ HRW HSW HDW HTW HB HK HI (by omega) HX2 HM6
    · refine g_lconst (pc' := 1174) (v := 1) C dL_law_1173 (by decide) rfl ?_
      refine g_goto (tgt := 1178) C dL_law_1174 (by decide) ?_
      refine g_lcmp (pc' := 1179) C dL_law_1178 rfl ?_
      refine g_val (y := nI 0) (lg_b1 ho2 hr6 c_1170_3) ?_
      refine g_if_eqN (pc' := 1182) (tgt := 1184) C (by first | assumption | omega) dL_law_1179 (by decide) rfl (fun _ => ?_) (fun z => absurd z (by decide))
      refine g_goto (tgt := 1355) C dL_law_1184 (by decide) ?_
      refine g_lv (lv' := [(4, .int (nI (5 * i))), (3, .ref o0), (2, .ref u0), (1, .ref x0), (0, .ref b)]) [2, 3, 4, 5, 6] rfl ?_
      refine g_widen (k' := 100 + 10 * (i + 1)) (n' := 2000 + 50 * (i + 1)) (by omega) (by omega) ?_
      exact KN _ _ _ _ _ _ _ _ _ _ _ _ _ _ _ _ _ _ _ _ _ HRW HSW HDW HTW HB HK HI (by omega) HX2 HM6
  · refine g_perm (ws' := ((w2 ++ outW κ o0 ou2) ++ wm)) (List.perm_append_comm.trans (hp2.append_right wm)) ?_
    refine g_istore (pc' := 1131) (lv' := [(5, .int (nI (c_knows (xs ((5 * i) + 1)) (xs ((5 * i) + 2)) th))), (4, .int (nI (5 * i))), (3, .ref o0), (2, .ref u0), (1, .ref x0), (0, .ref b)]) C dL_law_1129 (by decide) rfl rfl ?_
    refine g_aload_n (pc' := 1132) C 3 dL_law_1131 rfl rfl rfl ?_
    refine g_aload_n (pc' := 1133) C 5 dL_law_1132 rfl rfl rfl ?_
    refine g_iload (pc' := 1135) C 1 dL_law_1133 rfl rfl ?_
    refine g_iconst (pc' := 1136) (v := nI 1) C dL_law_1135 (by decide) rfl ?_
    refine g_iadd (pc' := 1137) (v := nI ((5 * i) + 1)) C dL_law_1136 (nI_add _ _) rfl ?_
    refine g_sld (pc' := 1138) C hX hbl hbA ((5 * i) + 1) (by omega) (by omega) dL_law_1137 rfl ?_
    refine g_aload_n (pc' := 1139) C 5 dL_law_1138 rfl rfl rfl ?_
    refine g_iload (pc' := 1141) C 1 dL_law_1139 rfl rfl ?_
    refine g_iconst (pc' := 1142) (v := nI 2) C dL_law_1141 (by decide) rfl ?_
    refine g_iadd (pc' := 1143) (v := nI ((5 * i) + 2)) C dL_law_1142 (nI_add _ _) rfl ?_
    refine g_sld (pc' := 1144) C hX hbl hbA ((5 * i) + 2) (by omega) (by omega) dL_law_1143 rfl ?_
    obtain ⟨qm, fm9, hqm⟩ := LM.recv HM
    refine g_fMi (pc' := 1147) (wr := w2 ++ outW κ o0 ou2) (wc := wm) C hA lk_RL_154 (hM_knows l κ u0 (xs ((5 * i) + 1)) (xs ((5 * i) + 2)) HRW HSW HDW HTW HB HK HI (by omega) HM) (List.Perm.refl _) qm hqm rfl rfl (Nat.le_of_ble_eq_true rfl) ⟨(by show 3 + 9 ≤ 2048; decide), (by show 219 + 3 + 40 * 3 ≤ 84000; decide)⟩ ⟨(by show _ ≤ 788806; omega), (by show _ ≤ 6729686; omega)⟩ rfl dL_law_1144 rfl (fun r6 w6 h6 => ?_)
    have HM6 := h6.2 hc
    clear h6
    refine g_istore (pc' := 1149) (lv' := [(6, .int r6), (5, .int (nI (c_knows (xs ((5 * i) + 1)) (xs ((5 * i) + 2)) th))), (4, .int (nI (5 * i))), (3, .ref o0), (2, .ref u0), (1, .ref x0), (0, .ref b)]) C dL_law_1147 (by decide) rfl rfl ?_
    refine g_aload_n (pc' := 1150) C 4 dL_law_1149 rfl rfl rfl ?_
    obtain ⟨qt, ft, hqt⟩ := LM.recv HM6
    refine g_fP (pc' := 1153) C lk_RL_86 (hM_thrown l κ u0 HM6) (fun q hq => List.mem_append_right _ hq) qt hqt rfl rfl (Nat.le_of_ble_eq_true rfl) ⟨(by show 0 + 9 ≤ 2048; decide), (by show 219 + 1 + 40 * 0 ≤ 84000; decide)⟩ ⟨(by show _ ≤ 788806; omega), (by show _ ≤ 6729686; omega)⟩ rfl dL_law_1150 rfl (fun r8 h8 => ?_)
    obtain rfl : r8 = nI (c_knows (xs ((5 * i) + 1)) (xs ((5 * i) + 2)) th) := h8
    refine g_iload (pc' := 1155) C 1 dL_law_1153 rfl rfl ?_
    refine g_icmp_eq (pc' := 1158) (tgt := 1160) C dL_law_1155 (by decide) rfl (fun c_1155_6 => ?_) (fun c_1155_6 => absurd c_1155_6 (by exact fun q => q rfl))
    refine g_iload (pc' := 1162) C 1 dL_law_1160 rfl rfl ?_
    refine g_if_ne (pc' := 1165) (tgt := 1184) C dL_law_1162 (by decide) rfl (fun c_1162_7 => ?_) (fun c_1162_7 => absurd c_1162_7 (by exact nI_c0 hc cb_knows))
    refine g_goto (tgt := 1355) C dL_law_1184 (by decide) ?_
    refine g_lv (lv' := [(4, .int (nI (5 * i))), (3, .ref o0), (2, .ref u0), (1, .ref x0), (0, .ref b)]) [2, 3, 4, 5, 6] rfl ?_
    refine g_widen (k' := 100 + 10 * (i + 1)) (n' := 2000 + 50 * (i + 1)) (by omega) (by omega) ?_
    exact KN _ _ _ _ _ _ _ _ _ _ _ _ _ _ _ _ _ _ _ _ _ HRW HSW HDW HTW HB HK HI (by omega) HX2 HM6

set_option maxHeartbeats 4000000 in
set_option maxRecDepth 100000 in
theorem law_due (hlc : LC l p s m meth c κ b L xs) (i : Nat) (hi : 5 * i + 5 ≤ L) {t9 : Nat} {wx wm : va_W} {ou : Nat → Int64} {n : Nat} {fk : Nat → Nat} {fs : Nat → Nat} {len : Nat} {fw : Nat → Nat} {ds : Nat} {dr : Nat → Option Nat} {mc : Nat} {th : Nat → Bool} {rc : Nat → Option Nat} {ck : Nat → Nat} {pm : Nat → Nat} {ep : Nat → Nat → Option Nat} {ba : Nat} {dy : Nat} {iv : Nat → Nat → Nat} {dv : Nat → Nat → Nat} (HRW : RW n fk fs) (HSW : SW len fw) (HDW : DW ds dr) (HTW : TW mc th rc ck pm ep) (HB : ba ≤ 50) (HK : KW iv dv) (HI : IW iv) (hdy : dy ≤ 100 * i) (HX : LX κ x0 n fk fs len fw ds dr mc th rc ck pm ep ba dy iv dv wx) (HM : LM κ u0 t9 n fk fs len fw ds dr mc th rc ck pm ep ba dy iv dv wm) (KN : NX p l e s m below meth c κ b x0 u0 o0 i) : LG p l e s m below meth c κ b x0 u0 o0 i 1187 (100 + 10 * i) (2000 + 50 * i) wx ou wm := by
  obtain ⟨C, YY, hX, hbl, hL, hst⟩ := hlc
  have hA : ∀ q, s.heap.size ≤ q → (fun q => s.heap.size ≤ q) q := fun _ h => h
  have hbA : ¬ (fun q => s.heap.size ≤ q) b := Nat.not_le.mpr hbl
  refine g_aload_n (pc' := 1188) C 3 dL_law_1187 rfl rfl rfl ?_
  refine g_aload_n (pc' := 1189) C 4 dL_law_1188 rfl rfl rfl ?_
  refine g_iload (pc' := 1191) C 0 dL_law_1189 rfl rfl ?_
  refine g_iconst (pc' := 1192) (v := nI 1) C dL_law_1191 (by decide) rfl ?_
  refine g_iadd (pc' := 1193) (v := nI ((5 * i) + 1)) C dL_law_1192 (nI_add _ _) rfl ?_
  refine g_sld (pc' := 1194) C hX hbl hbA ((5 * i) + 1) (by omega) (by omega) dL_law_1193 rfl ?_
  refine g_aload_n (pc' := 1195) C 1 dL_law_1194 rfl rfl rfl ?_
  refine g_fHi (pc' := 1198) (wr := wm) (wc := wx ++ outW κ o0 ou) C hA YY lh_due (hX_due l hst κ x0 o0 ou (xs ((5 * i) + 1)) HRW HSW HDW HTW HB HK HI (by omega) HX) List.perm_append_comm rfl (Nat.le_of_ble_eq_true rfl) ⟨(by show 5 + 9 ≤ 2048; decide), (by show 219 + 4 + 40 * 5 ≤ 84000; decide)⟩ ⟨(by show _ ≤ 788806; omega), (by show _ ≤ 6729686; omega)⟩ rfl dL_law_1195 rfl (fun r9 w9 h9 => ?_)
  rcases h9 with ⟨hc, rfl, w2, ou2, hp2, HX2, ho2⟩ | ⟨hc, rfl, w2, ou2, hp2, HX2⟩
  · refine g_perm (ws' := ((w2 ++ outW κ o0 ou2) ++ wm)) (List.perm_append_comm.trans (hp2.append_right wm)) ?_
    refine g_istore (pc' := 1200) (lv' := [(5, .int (nI 0)), (4, .int (nI (5 * i))), (3, .ref o0), (2, .ref u0), (1, .ref x0), (0, .ref b)]) C dL_law_1198 (by decide) rfl rfl ?_
    refine g_aload_n (pc' := 1201) C 3 dL_law_1200 rfl rfl rfl ?_
    refine g_aload_n (pc' := 1202) C 5 dL_law_1201 rfl rfl rfl ?_
    refine g_iload (pc' := 1204) C 1 dL_law_1202 rfl rfl ?_
    refine g_iconst (pc' := 1205) (v := nI 1) C dL_law_1204 (by decide) rfl ?_
    refine g_iadd (pc' := 1206) (v := nI ((5 * i) + 1)) C dL_law_1205 (nI_add _ _) rfl ?_
    refine g_sld (pc' := 1207) C hX hbl hbA ((5 * i) + 1) (by omega) (by omega) dL_law_1206 rfl ?_
    obtain ⟨qm, fm9, hqm⟩ := LM.recv HM
    refine g_fMi (pc' := 1210) (wr := w2 ++ outW κ o0 ou2) (wc := wm) C hA lk_RL_157 (hM_due l κ u0 (xs ((5 * i) + 1)) HRW HSW HDW HTW HB HK HI (by omega) HM) (List.Perm.refl _) qm hqm rfl rfl (Nat.le_of_ble_eq_true rfl) ⟨(by show 2 + 9 ≤ 2048; decide), (by show 219 + 6 + 40 * 2 ≤ 84000; decide)⟩ ⟨(by show _ ≤ 788806; omega), (by show _ ≤ 6729686; omega)⟩ rfl dL_law_1207 rfl (fun r6 w6 h6 => ?_)
    obtain ⟨HM6, hr6⟩ := h6.1 hc
    clear h6
    refine g_istore (pc' := 1212) (lv' := [(6, .int r6), (5, .int (nI 0)), (4, .int (nI (5 * i))), (3, .ref o0), (2, .ref u0), (1, .ref x0), (0, .ref b)]) C dL_law_1210 (by decide) rfl rfl ?_
    refine g_aload_n (pc' := 1213) C 4 dL_law_1212 rfl rfl rfl ?_
    obtain ⟨qt, ft, hqt⟩ := LM.recv HM6
    refine g_fP (pc' := 1216) C lk_RL_86 (hM_thrown l κ u0 HM6) (fun q hq => List.mem_append_right _ hq) qt hqt rfl rfl (Nat.le_of_ble_eq_true rfl) ⟨(by show 0 + 9 ≤ 2048; decide), (by show 219 + 1 + 40 * 0 ≤ 84000; decide)⟩ ⟨(by show _ ≤ 788806; omega), (by show _ ≤ 6729686; omega)⟩ rfl dL_law_1213 rfl (fun r8 h8 => ?_)
    obtain rfl : r8 = nI 0 := h8
    refine g_iload (pc' := 1218) C 1 dL_law_1216 rfl rfl ?_
    refine g_icmp_eqN (pc' := 1221) (tgt := 1223) C (by first | assumption | omega) (by first | assumption | omega) dL_law_1218 (by decide) rfl (fun _ => ?_) (fun z => absurd z (by decide))
    refine g_iload (pc' := 1225) C 1 dL_law_1223 rfl rfl ?_
    refine g_if_neN (pc' := 1228) (tgt := 1240) C (by first | assumption | omega) dL_law_1225 (by decide) rfl (fun z => absurd z (by decide)) (fun _ => ?_)
    refine g_aload_n (pc' := 1229) C 3 dL_law_1228 rfl rfl rfl ?_
    refine g_iconst (pc' := 1230) (v := nI 0) C dL_law_1229 (by decide) rfl ?_
    refine g_lald (pc' := 1231) C (w2).length out_at 0 (by decide) (by decide) dL_law_1230 rfl ?_
    refine g_iload (pc' := 1233) C 0 dL_law_1231 rfl rfl ?_
    refine g_i2l (pc' := 1234) (v := (r6).toInt64) C dL_law_1233 rfl rfl ?_
    refine g_lcmp (pc' := 1235) C dL_law_1234 rfl ?_
    refine g_val (y := nI 0) (lg_o ho2 hr6) ?_
    refine g_if_eqN (pc' := 1238) (tgt := 1240) C (by first | assumption | omega) dL_law_1235 (by decide) rfl (fun _ => ?_) (fun z => absurd z (by decide))
    refine g_goto (tgt := 1355) C dL_law_1240 (by decide) ?_
    refine g_lv (lv' := [(4, .int (nI (5 * i))), (3, .ref o0), (2, .ref u0), (1, .ref x0), (0, .ref b)]) [2, 3, 4, 5, 6] rfl ?_
    refine g_widen (k' := 100 + 10 * (i + 1)) (n' := 2000 + 50 * (i + 1)) (by omega) (by omega) ?_
    exact KN _ _ _ _ _ _ _ _ _ _ _ _ _ _ _ _ _ _ _ _ _ HRW HSW HDW HTW HB HK HI (by omega) HX2 HM6
  · refine g_perm (ws' := ((w2 ++ outW κ o0 ou2) ++ wm)) (List.perm_append_comm.trans (hp2.append_right wm)) ?_
    refine g_istore (pc' := 1200) (lv' := [(5, .int (nI (c_reader (xs ((5 * i) + 1))))), (4, .int (nI (5 * i))), (3, .ref o0), (2, .ref u0), (1, .ref x0), (0, .ref b)]) C dL_law_1198 (by decide) rfl rfl ?_
    refine g_aload_n (pc' := 1201) C 3 dL_law_1200 rfl rfl rfl ?_
    refine g_aload_n (pc' := 1202) C 5 dL_law_1201 rfl rfl rfl ?_
    refine g_iload (pc' := 1204) C 1 dL_law_1202 rfl rfl ?_
    refine g_iconst (pc' := 1205) (v := nI 1) C dL_law_1204 (by decide) rfl ?_
    refine g_iadd (pc' := 1206) (v := nI ((5 * i) + 1)) C dL_law_1205 (nI_add _ _) rfl ?_
    refine g_sld (pc' := 1207) C hX hbl hbA ((5 * i) + 1) (by omega) (by omega) dL_law_1206 rfl ?_
    obtain ⟨qm, fm9, hqm⟩ := LM.recv HM
    refine g_fMi (pc' := 1210) (wr := w2 ++ outW κ o0 ou2) (wc := wm) C hA lk_RL_157 (hM_due l κ u0 (xs ((5 * i) + 1)) HRW HSW HDW HTW HB HK HI (by omega) HM) (List.Perm.refl _) qm hqm rfl rfl (Nat.le_of_ble_eq_true rfl) ⟨(by show 2 + 9 ≤ 2048; decide), (by show 219 + 6 + 40 * 2 ≤ 84000; decide)⟩ ⟨(by show _ ≤ 788806; omega), (by show _ ≤ 6729686; omega)⟩ rfl dL_law_1207 rfl (fun r6 w6 h6 => ?_)
    have HM6 := h6.2 hc
    clear h6
    refine g_istore (pc' := 1212) (lv' := [(6, .int r6), (5, .int (nI (c_reader (xs ((5 * i) + 1))))), (4, .int (nI (5 * i))), (3, .ref o0), (2, .ref u0), (1, .ref x0), (0, .ref b)]) C dL_law_1210 (by decide) rfl rfl ?_
    refine g_aload_n (pc' := 1213) C 4 dL_law_1212 rfl rfl rfl ?_
    obtain ⟨qt, ft, hqt⟩ := LM.recv HM6
    refine g_fP (pc' := 1216) C lk_RL_86 (hM_thrown l κ u0 HM6) (fun q hq => List.mem_append_right _ hq) qt hqt rfl rfl (Nat.le_of_ble_eq_true rfl) ⟨(by show 0 + 9 ≤ 2048; decide), (by show 219 + 1 + 40 * 0 ≤ 84000; decide)⟩ ⟨(by show _ ≤ 788806; omega), (by show _ ≤ 6729686; omega)⟩ rfl dL_law_1213 rfl (fun r8 h8 => ?_)
    obtain rfl : r8 = nI (c_reader (xs ((5 * i) + 1))) := h8
    refine g_iload (pc' := 1218) C 1 dL_law_1216 rfl rfl ?_
    refine g_icmp_eq (pc' := 1221) (tgt := 1223) C dL_law_1218 (by decide) rfl (fun c_1218_4 => ?_) (fun c_1218_4 => absurd c_1218_4 (by exact fun q => q rfl))
    refine g_iload (pc' := 1225) C 1 dL_law_1223 rfl rfl ?_
    refine g_if_ne (pc' := 1228) (tgt := 1240) C dL_law_1225 (by decide) rfl (fun c_1225_5 => ?_) (fun c_1225_5 => absurd c_1225_5 (by exact nI_c0 hc cb_reader))
    refine g_goto (tgt := 1355) C dL_law_1240 (by decide) ?_
    refine g_lv (lv' := [(4, .int (nI (5 * i))), (3, .ref o0), (2, .ref u0), (1, .ref x0), (0, .ref b)]) [2, 3, 4, 5, 6] rfl ?_
    refine g_widen (k' := 100 + 10 * (i + 1)) (n' := 2000 + 50 * (i + 1)) (by omega) (by omega) ?_
    exact KN _ _ _ _ _ _ _ _ _ _ _ _ _ _ _ _ _ _ _ _ _ HRW HSW HDW HTW HB HK HI (by omega) HX2 HM6
end LAW
section LAW
variable {p : Program} {l : Launch} {e : Env} {s : State} {m : MethodId} {below : List Frame} {meth : Method} {c : Code} {κ : KK} {b L x0 u0 o0 : Nat} {xs : Nat → Int32}
set_option maxHeartbeats 4000000 in
set_option maxRecDepth 100000 in
theorem law_nextDue (hlc : LC l p s m meth c κ b L xs) (i : Nat) (hi : 5 * i + 5 ≤ L) {t9 : Nat} {wx wm : va_W} {ou : Nat → Int64} {n : Nat} {fk : Nat → Nat} {fs : Nat → Nat} {len : Nat} {fw : Nat → Nat} {ds : Nat} {dr : Nat → Option Nat} {mc : Nat} {th : Nat → Bool} {rc : Nat → Option Nat} {ck : Nat → Nat} {pm : Nat → Nat} {ep : Nat → Nat → Option Nat} {ba : Nat} {dy : Nat} {iv : Nat → Nat → Nat} {dv : Nat → Nat → Nat} (HRW : RW n fk fs) (HSW : SW len fw) (HDW : DW ds dr) (HTW : TW mc th rc ck pm ep) (HB : ba ≤ 50) (HK : KW iv dv) (HI : IW iv) (hdy : dy ≤ 100 * i) (HX : LX κ x0 n fk fs len fw ds dr mc th rc ck pm ep ba dy iv dv wx) (HM : LM κ u0 t9 n fk fs len fw ds dr mc th rc ck pm ep ba dy iv dv wm) (KN : NX p l e s m below meth c κ b x0 u0 o0 i) : LG p l e s m below meth c κ b x0 u0 o0 i 1243 (100 + 10 * i) (2000 + 50 * i) wx ou wm := by
  obtain ⟨C, YY, hX, hbl, hL, hst⟩ := hlc
  have hA : ∀ q, s.heap.size ≤ q → (fun q => s.heap.size ≤ q) q := fun _ h => h
  have hbA : ¬ (fun q => s.heap.size ≤ q) b := Nat.not_le.mpr hbl
  refine g_aload_n (pc' := 1244) C 3 dL_law_1243 rfl rfl rfl ?_
  refine g_aload_n (pc' := 1245) C 4 dL_law_1244 rfl rfl rfl ?_
  refine g_iload (pc' := 1247) C 0 dL_law_1245 rfl rfl ?_
  refine g_iconst (pc' := 1248) (v := nI 1) C dL_law_1247 (by decide) rfl ?_
  refine g_iadd (pc' := 1249) (v := nI ((5 * i) + 1)) C dL_law_1248 (nI_add _ _) rfl ?_
  refine g_sld (pc' := 1250) C hX hbl hbA ((5 * i) + 1) (by omega) (by omega) dL_law_1249 rfl ?_
  refine g_aload_n (pc' := 1251) C 1 dL_law_1250 rfl rfl rfl ?_
  refine g_fHi (pc' := 1254) (wr := wm) (wc := wx ++ outW κ o0 ou) C hA YY lh_nextDue (hX_nextDue l hst κ x0 o0 ou (xs ((5 * i) + 1)) HRW HSW HDW HTW HB HK HI (by omega) HX) List.perm_append_comm rfl (Nat.le_of_ble_eq_true rfl) ⟨(by show 5 + 9 ≤ 2048; decide), (by show 219 + 4 + 40 * 5 ≤ 84000; decide)⟩ ⟨(by show _ ≤ 788806; omega), (by show _ ≤ 6729686; omega)⟩ rfl dL_law_1251 rfl (fun r9 w9 h9 => ?_)
  rcases h9 with ⟨hc, rfl, w2, ou2, hp2, HX2, ho2⟩ | ⟨hc, rfl, w2, ou2, hp2, HX2⟩
  · refine g_perm (ws' := ((w2 ++ outW κ o0 ou2) ++ wm)) (List.perm_append_comm.trans (hp2.append_right wm)) ?_
    refine g_istore (pc' := 1256) (lv' := [(5, .int (nI 0)), (4, .int (nI (5 * i))), (3, .ref o0), (2, .ref u0), (1, .ref x0), (0, .ref b)]) C dL_law_1254 (by decide) rfl rfl ?_
    refine g_aload_n (pc' := 1257) C 3 dL_law_1256 rfl rfl rfl ?_
    refine g_aload_n (pc' := 1258) C 5 dL_law_1257 rfl rfl rfl ?_
    refine g_iload (pc' := 1260) C 1 dL_law_1258 rfl rfl ?_
    refine g_iconst (pc' := 1261) (v := nI 1) C dL_law_1260 (by decide) rfl ?_
    refine g_iadd (pc' := 1262) (v := nI ((5 * i) + 1)) C dL_law_1261 (nI_add _ _) rfl ?_
    refine g_sld (pc' := 1263) C hX hbl hbA ((5 * i) + 1) (by omega) (by omega) dL_law_1262 rfl ?_
    obtain ⟨qm, fm9, hqm⟩ := LM.recv HM
    refine g_fMi (pc' := 1266) (wr := w2 ++ outW κ o0 ou2) (wc := wm) C hA lk_RL_160 (hM_nextDue l κ u0 (xs ((5 * i) + 1)) HRW HSW HDW HTW HB HK HI (by omega) HM) (List.Perm.refl _) qm hqm rfl rfl (Nat.le_of_ble_eq_true rfl) ⟨(by show 2 + 9 ≤ 2048; decide), (by show 219 + 6 + 40 * 2 ≤ 84000; decide)⟩ ⟨(by show _ ≤ 788806; omega), (by show _ ≤ 6729686; omega)⟩ rfl dL_law_1263 rfl (fun r6 w6 h6 => ?_)
    obtain ⟨HM6, hr6⟩ := h6.1 hc
    clear h6
    refine g_istore (pc' := 1268) (lv' := [(6, .int r6), (5, .int (nI 0)), (4, .int (nI (5 * i))), (3, .ref o0), (2, .ref u0), (1, .ref x0), (0, .ref b)]) C dL_law_1266 (by decide) rfl rfl ?_
    refine g_aload_n (pc' := 1269) C 4 dL_law_1268 rfl rfl rfl ?_
    obtain ⟨qt, ft, hqt⟩ := LM.recv HM6
    refine g_fP (pc' := 1272) C lk_RL_86 (hM_thrown l κ u0 HM6) (fun q hq => List.mem_append_right _ hq) qt hqt rfl rfl (Nat.le_of_ble_eq_true rfl) ⟨(by show 0 + 9 ≤ 2048; decide), (by show 219 + 1 + 40 * 0 ≤ 84000; decide)⟩ ⟨(by show _ ≤ 788806; omega), (by show _ ≤ 6729686; omega)⟩ rfl dL_law_1269 rfl (fun r8 h8 => ?_)
    obtain rfl : r8 = nI 0 := h8
    refine g_iload (pc' := 1274) C 1 dL_law_1272 rfl rfl ?_
    refine g_icmp_eqN (pc' := 1277) (tgt := 1279) C (by first | assumption | omega) (by first | assumption | omega) dL_law_1274 (by decide) rfl (fun _ => ?_) (fun z => absurd z (by decide))
    refine g_iload (pc' := 1281) C 1 dL_law_1279 rfl rfl ?_
    refine g_if_neN (pc' := 1284) (tgt := 1296) C (by first | assumption | omega) dL_law_1281 (by decide) rfl (fun z => absurd z (by decide)) (fun _ => ?_)
    refine g_aload_n (pc' := 1285) C 3 dL_law_1284 rfl rfl rfl ?_
    refine g_iconst (pc' := 1286) (v := nI 0) C dL_law_1285 (by decide) rfl ?_
    refine g_lald (pc' := 1287) C (w2).length out_at 0 (by decide) (by decide) dL_law_1286 rfl ?_
    refine g_iload (pc' := 1289) C 0 dL_law_1287 rfl rfl ?_
    refine g_i2l (pc' := 1290) (v := (r6).toInt64) C dL_law_1289 rfl rfl ?_
    refine g_lcmp (pc' := 1291) C dL_law_1290 rfl ?_
    refine g_val (y := nI 0) (lg_o ho2 hr6) ?_
    refine g_if_eqN (pc' := 1294) (tgt := 1296) C (by first | assumption | omega) dL_law_1291 (by decide) rfl (fun _ => ?_) (fun z => absurd z (by decide))
    refine g_goto (tgt := 1355) C dL_law_1296 (by decide) ?_
    refine g_lv (lv' := [(4, .int (nI (5 * i))), (3, .ref o0), (2, .ref u0), (1, .ref x0), (0, .ref b)]) [2, 3, 4, 5, 6] rfl ?_
    refine g_widen (k' := 100 + 10 * (i + 1)) (n' := 2000 + 50 * (i + 1)) (by omega) (by omega) ?_
    exact KN _ _ _ _ _ _ _ _ _ _ _ _ _ _ _ _ _ _ _ _ _ HRW HSW HDW HTW HB HK HI (by omega) HX2 HM6
  · refine g_perm (ws' := ((w2 ++ outW κ o0 ou2) ++ wm)) (List.perm_append_comm.trans (hp2.append_right wm)) ?_
    refine g_istore (pc' := 1256) (lv' := [(5, .int (nI (c_reader (xs ((5 * i) + 1))))), (4, .int (nI (5 * i))), (3, .ref o0), (2, .ref u0), (1, .ref x0), (0, .ref b)]) C dL_law_1254 (by decide) rfl rfl ?_
    refine g_aload_n (pc' := 1257) C 3 dL_law_1256 rfl rfl rfl ?_
    refine g_aload_n (pc' := 1258) C 5 dL_law_1257 rfl rfl rfl ?_
    refine g_iload (pc' := 1260) C 1 dL_law_1258 rfl rfl ?_
    refine g_iconst (pc' := 1261) (v := nI 1) C dL_law_1260 (by decide) rfl ?_
    refine g_iadd (pc' := 1262) (v := nI ((5 * i) + 1)) C dL_law_1261 (nI_add _ _) rfl ?_
    refine g_sld (pc' := 1263) C hX hbl hbA ((5 * i) + 1) (by omega) (by omega) dL_law_1262 rfl ?_
    obtain ⟨qm, fm9, hqm⟩ := LM.recv HM
    refine g_fMi (pc' := 1266) (wr := w2 ++ outW κ o0 ou2) (wc := wm) C hA lk_RL_160 (hM_nextDue l κ u0 (xs ((5 * i) + 1)) HRW HSW HDW HTW HB HK HI (by omega) HM) (List.Perm.refl _) qm hqm rfl rfl (Nat.le_of_ble_eq_true rfl) ⟨(by show 2 + 9 ≤ 2048; decide), (by show 219 + 6 + 40 * 2 ≤ 84000; decide)⟩ ⟨(by show _ ≤ 788806; omega), (by show _ ≤ 6729686; omega)⟩ rfl dL_law_1263 rfl (fun r6 w6 h6 => ?_)
    have HM6 := h6.2 hc
    clear h6
    refine g_istore (pc' := 1268) (lv' := [(6, .int r6), (5, .int (nI (c_reader (xs ((5 * i) + 1))))), (4, .int (nI (5 * i))), (3, .ref o0), (2, .ref u0), (1, .ref x0), (0, .ref b)]) C dL_law_1266 (by decide) rfl rfl ?_
    refine g_aload_n (pc' := 1269) C 4 dL_law_1268 rfl rfl rfl ?_
    obtain ⟨qt, ft, hqt⟩ := LM.recv HM6
    refine g_fP (pc' := 1272) C lk_RL_86 (hM_thrown l κ u0 HM6) (fun q hq => List.mem_append_right _ hq) qt hqt rfl rfl (Nat.le_of_ble_eq_true rfl) ⟨(by show 0 + 9 ≤ 2048; decide), (by show 219 + 1 + 40 * 0 ≤ 84000; decide)⟩ ⟨(by show _ ≤ 788806; omega), (by show _ ≤ 6729686; omega)⟩ rfl dL_law_1269 rfl (fun r8 h8 => ?_)
    obtain rfl : r8 = nI (c_reader (xs ((5 * i) + 1))) := h8
    refine g_iload (pc' := 1274) C 1 dL_law_1272 rfl rfl ?_
    refine g_icmp_eq (pc' := 1277) (tgt := 1279) C dL_law_1274 (by decide) rfl (fun c_1274_4 => ?_) (fun c_1274_4 => absurd c_1274_4 (by exact fun q => q rfl))
    refine g_iload (pc' := 1281) C 1 dL_law_1279 rfl rfl ?_
    refine g_if_ne (pc' := 1284) (tgt := 1296) C dL_law_1281 (by decide) rfl (fun c_1281_5 => ?_) (fun c_1281_5 => absurd c_1281_5 (by exact nI_c0 hc cb_reader))
    refine g_goto (tgt := 1355) C dL_law_1296 (by decide) ?_
    refine g_lv (lv' := [(4, .int (nI (5 * i))), (3, .ref o0), (2, .ref u0), (1, .ref x0), (0, .ref b)]) [2, 3, 4, 5, 6] rfl ?_
    refine g_widen (k' := 100 + 10 * (i + 1)) (n' := 2000 + 50 * (i + 1)) (by omega) (by omega) ?_
    exact KN _ _ _ _ _ _ _ _ _ _ _ _ _ _ _ _ _ _ _ _ _ HRW HSW HDW HTW HB HK HI (by omega) HX2 HM6

set_option maxHeartbeats 4000000 in
set_option maxRecDepth 100000 in
theorem law_pass (hlc : LC l p s m meth c κ b L xs) (i : Nat) (hi : 5 * i + 5 ≤ L) {t9 : Nat} {wx wm : va_W} {ou : Nat → Int64} {n : Nat} {fk : Nat → Nat} {fs : Nat → Nat} {len : Nat} {fw : Nat → Nat} {ds : Nat} {dr : Nat → Option Nat} {mc : Nat} {th : Nat → Bool} {rc : Nat → Option Nat} {ck : Nat → Nat} {pm : Nat → Nat} {ep : Nat → Nat → Option Nat} {ba : Nat} {dy : Nat} {iv : Nat → Nat → Nat} {dv : Nat → Nat → Nat} (HRW : RW n fk fs) (HSW : SW len fw) (HDW : DW ds dr) (HTW : TW mc th rc ck pm ep) (HB : ba ≤ 50) (HK : KW iv dv) (HI : IW iv) (hdy : dy ≤ 100 * i) (HX : LX κ x0 n fk fs len fw ds dr mc th rc ck pm ep ba dy iv dv wx) (HM : LM κ u0 t9 n fk fs len fw ds dr mc th rc ck pm ep ba dy iv dv wm) (KN : NX p l e s m below meth c κ b x0 u0 o0 i) : LG p l e s m below meth c κ b x0 u0 o0 i 1299 (100 + 10 * i) (2000 + 50 * i) wx ou wm := by
  obtain ⟨C, YY, hX, hbl, hL, hst⟩ := hlc
  have hA : ∀ q, s.heap.size ≤ q → (fun q => s.heap.size ≤ q) q := fun _ h => h
  have hbA : ¬ (fun q => s.heap.size ≤ q) b := Nat.not_le.mpr hbl
  refine g_aload_n (pc' := 1300) C 3 dL_law_1299 rfl rfl rfl ?_
  refine g_aload_n (pc' := 1301) C 4 dL_law_1300 rfl rfl rfl ?_
  refine g_iload (pc' := 1303) C 0 dL_law_1301 rfl rfl ?_
  refine g_iconst (pc' := 1304) (v := nI 1) C dL_law_1303 (by decide) rfl ?_
  refine g_iadd (pc' := 1305) (v := nI ((5 * i) + 1)) C dL_law_1304 (nI_add _ _) rfl ?_
  refine g_sld (pc' := 1306) C hX hbl hbA ((5 * i) + 1) (by omega) (by omega) dL_law_1305 rfl ?_
  refine g_aload_n (pc' := 1307) C 1 dL_law_1306 rfl rfl rfl ?_
  refine g_fHi (pc' := 1310) (wr := wm) (wc := wx ++ outW κ o0 ou) C hA YY lh_pass (hX_pass l hst κ x0 o0 ou (xs ((5 * i) + 1)) HRW HSW HDW HTW HB HK HI (by omega) HX) List.perm_append_comm rfl (Nat.le_of_ble_eq_true rfl) ⟨(by show 1 + 9 ≤ 2048; decide), (by show 219 + 4 + 40 * 1 ≤ 84000; decide)⟩ ⟨(by show _ ≤ 788806; omega), (by show _ ≤ 6729686; omega)⟩ rfl dL_law_1307 rfl (fun r9 w9 h9 => ?_)
  rcases h9 with ⟨hc, rfl, w2, ou2, hp2, HX2, ho2⟩ | ⟨hc, rfl, w2, ou2, hp2, HX2⟩
  · refine g_perm (ws' := ((w2 ++ outW κ o0 ou2) ++ wm)) (List.perm_append_comm.trans (hp2.append_right wm)) ?_
    refine g_istore (pc' := 1312) (lv' := [(5, .int (nI 0)), (4, .int (nI (5 * i))), (3, .ref o0), (2, .ref u0), (1, .ref x0), (0, .ref b)]) C dL_law_1310 (by decide) rfl rfl ?_
    refine g_aload_n (pc' := 1313) C 3 dL_law_1312 rfl rfl rfl ?_
    refine g_aload_n (pc' := 1314) C 5 dL_law_1313 rfl rfl rfl ?_
    refine g_iload (pc' := 1316) C 1 dL_law_1314 rfl rfl ?_
    refine g_iconst (pc' := 1317) (v := nI 1) C dL_law_1316 (by decide) rfl ?_
    refine g_iadd (pc' := 1318) (v := nI ((5 * i) + 1)) C dL_law_1317 (nI_add _ _) rfl ?_
    refine g_sld (pc' := 1319) C hX hbl hbA ((5 * i) + 1) (by omega) (by omega) dL_law_1318 rfl ?_
    obtain ⟨qm, fm9, hqm⟩ := LM.recv HM
    refine g_fMi (pc' := 1322) (wr := w2 ++ outW κ o0 ou2) (wc := wm) C hA lk_RL_163 (hM_pass l κ u0 (xs ((5 * i) + 1)) HRW HSW HDW HTW HB HK HI (by omega) HM) (List.Perm.refl _) qm hqm rfl rfl (Nat.le_of_ble_eq_true rfl) ⟨(by show 1 + 9 ≤ 2048; decide), (by show 219 + 2 + 40 * 1 ≤ 84000; decide)⟩ ⟨(by show _ ≤ 788806; omega), (by show _ ≤ 6729686; omega)⟩ rfl dL_law_1319 rfl (fun r6 w6 h6 => ?_)
    obtain ⟨HM6, hr6⟩ := h6.1 hc
    clear h6
    refine g_istore (pc' := 1324) (lv' := [(6, .int r6), (5, .int (nI 0)), (4, .int (nI (5 * i))), (3, .ref o0), (2, .ref u0), (1, .ref x0), (0, .ref b)]) C dL_law_1322 (by decide) rfl rfl ?_
    refine g_aload_n (pc' := 1325) C 4 dL_law_1324 rfl rfl rfl ?_
    obtain ⟨qt, ft, hqt⟩ := LM.recv HM6
    refine g_fP (pc' := 1328) C lk_RL_86 (hM_thrown l κ u0 HM6) (fun q hq => List.mem_append_right _ hq) qt hqt rfl rfl (Nat.le_of_ble_eq_true rfl) ⟨(by show 0 + 9 ≤ 2048; decide), (by show 219 + 1 + 40 * 0 ≤ 84000; decide)⟩ ⟨(by show _ ≤ 788806; omega), (by show _ ≤ 6729686; omega)⟩ rfl dL_law_1325 rfl (fun r8 h8 => ?_)
    obtain rfl : r8 = nI 0 := h8
    refine g_iload (pc' := 1330) C 1 dL_law_1328 rfl rfl ?_
    refine g_icmp_eqN (pc' := 1333) (tgt := 1335) C (by first | assumption | omega) (by first | assumption | omega) dL_law_1330 (by decide) rfl (fun _ => ?_) (fun z => absurd z (by decide))
    refine g_iload (pc' := 1337) C 1 dL_law_1335 rfl rfl ?_
    refine g_if_neN (pc' := 1340) (tgt := 1352) C (by first | assumption | omega) dL_law_1337 (by decide) rfl (fun z => absurd z (by decide)) (fun _ => ?_)
    refine g_aload_n (pc' := 1341) C 3 dL_law_1340 rfl rfl rfl ?_
    refine g_iconst (pc' := 1342) (v := nI 0) C dL_law_1341 (by decide) rfl ?_
    refine g_lald (pc' := 1343) C (w2).length out_at 0 (by decide) (by decide) dL_law_1342 rfl ?_
    refine g_iload (pc' := 1345) C 0 dL_law_1343 rfl rfl ?_
    refine g_i2l (pc' := 1346) (v := (r6).toInt64) C dL_law_1345 rfl rfl ?_
    refine g_lcmp (pc' := 1347) C dL_law_1346 rfl ?_
    refine g_val (y := nI 0) (lg_o ho2 hr6) ?_
    refine g_if_eqN (pc' := 1350) (tgt := 1352) C (by first | assumption | omega) dL_law_1347 (by decide) rfl (fun _ => ?_) (fun z => absurd z (by decide))
    refine g_goto (tgt := 1355) C dL_law_1352 (by decide) ?_
    refine g_lv (lv' := [(4, .int (nI (5 * i))), (3, .ref o0), (2, .ref u0), (1, .ref x0), (0, .ref b)]) [2, 3, 4, 5, 6] rfl ?_
    refine g_widen (k' := 100 + 10 * (i + 1)) (n' := 2000 + 50 * (i + 1)) (by omega) (by omega) ?_
    exact KN _ _ _ _ _ _ _ _ _ _ _ _ _ _ _ _ _ _ _ _ _ HRW HSW HDW HTW HB HK HI (by have h9 := cpa_0 hc; omega) HX2 HM6
  · refine g_perm (ws' := ((w2 ++ outW κ o0 ou2) ++ wm)) (List.perm_append_comm.trans (hp2.append_right wm)) ?_
    refine g_istore (pc' := 1312) (lv' := [(5, .int (nI (c_pass (xs ((5 * i) + 1))))), (4, .int (nI (5 * i))), (3, .ref o0), (2, .ref u0), (1, .ref x0), (0, .ref b)]) C dL_law_1310 (by decide) rfl rfl ?_
    refine g_aload_n (pc' := 1313) C 3 dL_law_1312 rfl rfl rfl ?_
    refine g_aload_n (pc' := 1314) C 5 dL_law_1313 rfl rfl rfl ?_
    refine g_iload (pc' := 1316) C 1 dL_law_1314 rfl rfl ?_
    refine g_iconst (pc' := 1317) (v := nI 1) C dL_law_1316 (by decide) rfl ?_
    refine g_iadd (pc' := 1318) (v := nI ((5 * i) + 1)) C dL_law_1317 (nI_add _ _) rfl ?_
    refine g_sld (pc' := 1319) C hX hbl hbA ((5 * i) + 1) (by omega) (by omega) dL_law_1318 rfl ?_
    obtain ⟨qm, fm9, hqm⟩ := LM.recv HM
    refine g_fMi (pc' := 1322) (wr := w2 ++ outW κ o0 ou2) (wc := wm) C hA lk_RL_163 (hM_pass l κ u0 (xs ((5 * i) + 1)) HRW HSW HDW HTW HB HK HI (by omega) HM) (List.Perm.refl _) qm hqm rfl rfl (Nat.le_of_ble_eq_true rfl) ⟨(by show 1 + 9 ≤ 2048; decide), (by show 219 + 2 + 40 * 1 ≤ 84000; decide)⟩ ⟨(by show _ ≤ 788806; omega), (by show _ ≤ 6729686; omega)⟩ rfl dL_law_1319 rfl (fun r6 w6 h6 => ?_)
    have HM6 := h6.2 hc
    clear h6
    refine g_istore (pc' := 1324) (lv' := [(6, .int r6), (5, .int (nI (c_pass (xs ((5 * i) + 1))))), (4, .int (nI (5 * i))), (3, .ref o0), (2, .ref u0), (1, .ref x0), (0, .ref b)]) C dL_law_1322 (by decide) rfl rfl ?_
    refine g_aload_n (pc' := 1325) C 4 dL_law_1324 rfl rfl rfl ?_
    obtain ⟨qt, ft, hqt⟩ := LM.recv HM6
    refine g_fP (pc' := 1328) C lk_RL_86 (hM_thrown l κ u0 HM6) (fun q hq => List.mem_append_right _ hq) qt hqt rfl rfl (Nat.le_of_ble_eq_true rfl) ⟨(by show 0 + 9 ≤ 2048; decide), (by show 219 + 1 + 40 * 0 ≤ 84000; decide)⟩ ⟨(by show _ ≤ 788806; omega), (by show _ ≤ 6729686; omega)⟩ rfl dL_law_1325 rfl (fun r8 h8 => ?_)
    obtain rfl : r8 = nI (c_pass (xs ((5 * i) + 1))) := h8
    refine g_iload (pc' := 1330) C 1 dL_law_1328 rfl rfl ?_
    refine g_icmp_eq (pc' := 1333) (tgt := 1335) C dL_law_1330 (by decide) rfl (fun c_1330_4 => ?_) (fun c_1330_4 => absurd c_1330_4 (by exact fun q => q rfl))
    refine g_iload (pc' := 1337) C 1 dL_law_1335 rfl rfl ?_
    refine g_if_ne (pc' := 1340) (tgt := 1352) C dL_law_1337 (by decide) rfl (fun c_1337_5 => ?_) (fun c_1337_5 => absurd c_1337_5 (by exact nI_c0 hc cb_pass))
    refine g_goto (tgt := 1355) C dL_law_1352 (by decide) ?_
    refine g_lv (lv' := [(4, .int (nI (5 * i))), (3, .ref o0), (2, .ref u0), (1, .ref x0), (0, .ref b)]) [2, 3, 4, 5, 6] rfl ?_
    refine g_widen (k' := 100 + 10 * (i + 1)) (n' := 2000 + 50 * (i + 1)) (by omega) (by omega) ?_
    exact KN _ _ _ _ _ _ _ _ _ _ _ _ _ _ _ _ _ _ _ _ _ HRW HSW HDW HTW HB HK HI (by omega) HX2 HM6

set_option maxHeartbeats 4000000 in
set_option maxRecDepth 100000 in
theorem law_entries (hlc : LC l p s m meth c κ b L xs) (i : Nat) (hi : 5 * i + 5 ≤ L) {t9 : Nat} {wx wm : va_W} {ou : Nat → Int64} {n : Nat} {fk : Nat → Nat} {fs : Nat → Nat} {len : Nat} {fw : Nat → Nat} {ds : Nat} {dr : Nat → Option Nat} {mc : Nat} {th : Nat → Bool} {rc : Nat → Option Nat} {ck : Nat → Nat} {pm : Nat → Nat} {ep : Nat → Nat → Option Nat} {ba : Nat} {dy : Nat} {iv : Nat → Nat → Nat} {dv : Nat → Nat → Nat} (HRW : RW n fk fs) (HSW : SW len fw) (HDW : DW ds dr) (HTW : TW mc th rc ck pm ep) (HB : ba ≤ 50) (HK : KW iv dv) (HI : IW iv) (hdy : dy ≤ 100 * i) (HX : LX κ x0 n fk fs len fw ds dr mc th rc ck pm ep ba dy iv dv wx) (HM : LM κ u0 t9 n fk fs len fw ds dr mc th rc ck pm ep ba dy iv dv wm) (KN : NX p l e s m below meth c κ b x0 u0 o0 i) : LG p l e s m below meth c κ b x0 u0 o0 i 603 (100 + 10 * i) (2000 + 50 * i) wx ou wm := by
  obtain ⟨C, YY, hX, hbl, hL, hst⟩ := hlc
  have hA : ∀ q, s.heap.size ≤ q → (fun q => s.heap.size ≤ q) q := fun _ h => h
  have hbA : ¬ (fun q => s.heap.size ≤ q) b := Nat.not_le.mpr hbl
  refine g_aload_n (pc' := 604) C 3 dL_law_603 rfl rfl rfl ?_
  obtain ⟨qx, fx9, hqx⟩ := LX.recv HX
  refine g_fP (pc' := 607) C lk_RL_110 (hX_entries l κ x0 HRW HSW HDW HTW HB HK HI (by omega) HX) (fun q hq => List.mem_append_left _ (List.mem_append_left _ hq)) qx hqx rfl rfl (Nat.le_of_ble_eq_true rfl) ⟨(by show 0 + 9 ≤ 2048; decide), (by show 219 + 6 + 40 * 0 ≤ 84000; decide)⟩ ⟨(by show _ ≤ 788806; omega), (by show _ ≤ 6729686; omega)⟩ rfl dL_law_604 rfl (fun r8 h8 => ?_)
  have h7r := h8
  refine g_aload_n (pc' := 608) C 2 dL_law_607 rfl rfl rfl ?_
  obtain ⟨qm, fm9, hqm⟩ := LM.recv HM
  refine g_fMi (pc' := 611) (wr := wx ++ outW κ o0 ou) (wc := wm) C hA lk_RL_113 (hM_entries l κ u0  HRW HSW HDW HTW HB HK HI (by omega) HM) (List.Perm.refl _) qm hqm rfl rfl (Nat.le_of_ble_eq_true rfl) ⟨(by show 0 + 9 ≤ 2048; decide), (by show 219 + 3 + 40 * 0 ≤ 84000; decide)⟩ ⟨(by show _ ≤ 788806; omega), (by show _ ≤ 6729686; omega)⟩ rfl dL_law_608 rfl (fun r6 w6 h6 => ?_)
  obtain ⟨HM6, hr6⟩ := h6
  refine g_icmp_eq (pc' := 614) (tgt := 1355) C dL_law_611 (by decide) rfl (fun c_611_1 => ?_) (fun c_611_1 => absurd c_611_1 (by exact fun q => q (h7r.trans hr6.symm)))
  refine g_lv (lv' := [(4, .int (nI (5 * i))), (3, .ref o0), (2, .ref u0), (1, .ref x0), (0, .ref b)]) [0, 1, 2, 3, 4] rfl ?_
  refine g_widen (k' := 100 + 10 * (i + 1)) (n' := 2000 + 50 * (i + 1)) (by omega) (by omega) ?_
  exact KN _ _ _ _ _ _ _ _ _ _ _ _ _ _ _ _ _ _ _ _ _ HRW HSW HDW HTW HB HK HI (by omega) HX HM6

set_option maxHeartbeats 4000000 in
set_option maxRecDepth 100000 in
theorem law_clear (hlc : LC l p s m meth c κ b L xs) (i : Nat) (hi : 5 * i + 5 ≤ L) {t9 : Nat} {wx wm : va_W} {ou : Nat → Int64} {n : Nat} {fk : Nat → Nat} {fs : Nat → Nat} {len : Nat} {fw : Nat → Nat} {ds : Nat} {dr : Nat → Option Nat} {mc : Nat} {th : Nat → Bool} {rc : Nat → Option Nat} {ck : Nat → Nat} {pm : Nat → Nat} {ep : Nat → Nat → Option Nat} {ba : Nat} {dy : Nat} {iv : Nat → Nat → Nat} {dv : Nat → Nat → Nat} (HRW : RW n fk fs) (HSW : SW len fw) (HDW : DW ds dr) (HTW : TW mc th rc ck pm ep) (HB : ba ≤ 50) (HK : KW iv dv) (HI : IW iv) (hdy : dy ≤ 100 * i) (HX : LX κ x0 n fk fs len fw ds dr mc th rc ck pm ep ba dy iv dv wx) (HM : LM κ u0 t9 n fk fs len fw ds dr mc th rc ck pm ep ba dy iv dv wm) (KN : NX p l e s m below meth c κ b x0 u0 o0 i) : LG p l e s m below meth c κ b x0 u0 o0 i 672 (100 + 10 * i) (2000 + 50 * i) wx ou wm := by
  obtain ⟨C, YY, hX, hbl, hL, hst⟩ := hlc
  have hA : ∀ q, s.heap.size ≤ q → (fun q => s.heap.size ≤ q) q := fun _ h => h
  have hbA : ¬ (fun q => s.heap.size ≤ q) b := Nat.not_le.mpr hbl
  refine g_aload_n (pc' := 673) C 3 dL_law_672 rfl rfl rfl ?_
  obtain ⟨qx, fx9, hqx⟩ := LX.recv HX
  refine g_fMi (pc' := 676) (wr := outW κ o0 ou ++ wm) (wc := wx) C hA lk_RL_117 (hX_clear l κ x0 HRW HSW HDW HTW HB HK HI (by omega) HX) (pm3 _ _ _) qx hqx rfl rfl (Nat.le_of_ble_eq_true rfl) ⟨(by show 1 + 9 ≤ 2048; decide), (by show 219 + 1 + 40 * 1 ≤ 84000; decide)⟩ ⟨(by show _ ≤ 788806; omega), (by show _ ≤ 6729686; omega)⟩ rfl dL_law_673 rfl (fun r7 w7 h7 => ?_)
  obtain ⟨HX7, h7r⟩ := h7
  refine g_perm (ws' := ((w7 ++ outW κ o0 ou) ++ wm)) (pm3 _ _ _).symm ?_
  refine g_aload_n (pc' := 677) C 2 dL_law_676 rfl rfl rfl ?_
  obtain ⟨qm, fm9, hqm⟩ := LM.recv HM
  refine g_fMi (pc' := 680) (wr := w7 ++ outW κ o0 ou) (wc := wm) C hA lk_RL_120 (hM_clear l κ u0  HRW HSW HDW HTW HB HK HI (by omega) HM) (List.Perm.refl _) qm hqm rfl rfl (Nat.le_of_ble_eq_true rfl) ⟨(by show 0 + 9 ≤ 2048; decide), (by show 219 + 2 + 40 * 0 ≤ 84000; decide)⟩ ⟨(by show _ ≤ 788806; omega), (by show _ ≤ 6729686; omega)⟩ rfl dL_law_677 rfl (fun r6 w6 h6 => ?_)
  obtain ⟨HM6, hr6⟩ := h6
  refine g_icmp_eq (pc' := 683) (tgt := 1355) C dL_law_680 (by decide) rfl (fun c_680_1 => ?_) (fun c_680_1 => absurd c_680_1 (by exact fun q => q (h7r.trans hr6.symm)))
  refine g_lv (lv' := [(4, .int (nI (5 * i))), (3, .ref o0), (2, .ref u0), (1, .ref x0), (0, .ref b)]) [0, 1, 2, 3, 4] rfl ?_
  refine g_widen (k' := 100 + 10 * (i + 1)) (n' := 2000 + 50 * (i + 1)) (by omega) (by omega) ?_
  exact KN _ _ _ _ _ _ _ _ _ _ _ _ _ _ _ _ _ _ _ _ _ HRW (SW_0 HSW) HDW HTW HB HK HI (by omega) HX7 HM6
end LAW
section LAW
variable {p : Program} {l : Launch} {e : Env} {s : State} {m : MethodId} {below : List Frame} {meth : Method} {c : Code} {κ : KK} {b L x0 u0 o0 : Nat} {xs : Nat → Int32}
set_option maxHeartbeats 4000000 in
set_option maxRecDepth 100000 in
theorem law_standings (hlc : LC l p s m meth c κ b L xs) (i : Nat) (hi : 5 * i + 5 ≤ L) {t9 : Nat} {wx wm : va_W} {ou : Nat → Int64} {n : Nat} {fk : Nat → Nat} {fs : Nat → Nat} {len : Nat} {fw : Nat → Nat} {ds : Nat} {dr : Nat → Option Nat} {mc : Nat} {th : Nat → Bool} {rc : Nat → Option Nat} {ck : Nat → Nat} {pm : Nat → Nat} {ep : Nat → Nat → Option Nat} {ba : Nat} {dy : Nat} {iv : Nat → Nat → Nat} {dv : Nat → Nat → Nat} (HRW : RW n fk fs) (HSW : SW len fw) (HDW : DW ds dr) (HTW : TW mc th rc ck pm ep) (HB : ba ≤ 50) (HK : KW iv dv) (HI : IW iv) (hdy : dy ≤ 100 * i) (HX : LX κ x0 n fk fs len fw ds dr mc th rc ck pm ep ba dy iv dv wx) (HM : LM κ u0 t9 n fk fs len fw ds dr mc th rc ck pm ep ba dy iv dv wm) (KN : NX p l e s m below meth c κ b x0 u0 o0 i) : LG p l e s m below meth c κ b x0 u0 o0 i 741 (100 + 10 * i) (2000 + 50 * i) wx ou wm := by
  obtain ⟨C, YY, hX, hbl, hL, hst⟩ := hlc
  have hA : ∀ q, s.heap.size ≤ q → (fun q => s.heap.size ≤ q) q := fun _ h => h
  have hbA : ¬ (fun q => s.heap.size ≤ q) b := Nat.not_le.mpr hbl
  refine g_aload_n (pc' := 742) C 3 dL_law_741 rfl rfl rfl ?_
  obtain ⟨qx, fx9, hqx⟩ := LX.recv HX
  refine g_fMi (pc' := 745) (wr := outW κ o0 ou ++ wm) (wc := wx) C hA lk_RL_124 (hX_standings l κ x0 HRW HSW HDW HTW HB HK HI (by omega) HX) (pm3 _ _ _) qx hqx rfl rfl (Nat.le_of_ble_eq_true rfl) ⟨(by show 6 + 9 ≤ 2048; decide), (by show 219 + 1 + 40 * 6 ≤ 84000; decide)⟩ ⟨(by show _ ≤ 788806; omega), (by show _ ≤ 6729686; omega)⟩ rfl dL_law_742 rfl (fun r7 w7 h7 => ?_)
  obtain ⟨HX7, h7r⟩ := h7
  refine g_perm (ws' := ((w7 ++ outW κ o0 ou) ++ wm)) (pm3 _ _ _).symm ?_
  refine g_aload_n (pc' := 746) C 2 dL_law_745 rfl rfl rfl ?_
  obtain ⟨qm, fm9, hqm⟩ := LM.recv HM
  refine g_fMi (pc' := 749) (wr := w7 ++ outW κ o0 ou) (wc := wm) C hA lk_RL_127 (hM_standings l κ u0  HRW HSW HDW HTW HB HK HI (by omega) HM) (List.Perm.refl _) qm hqm rfl rfl (Nat.le_of_ble_eq_true rfl) ⟨(by show 3 + 9 ≤ 2048; decide), (by show 219 + 1 + 40 * 3 ≤ 84000; decide)⟩ ⟨(by show _ ≤ 788806; omega), (by show _ ≤ 6729686; omega)⟩ rfl dL_law_746 rfl (fun r6 w6 h6 => ?_)
  obtain ⟨HM6, hr6⟩ := h6
  refine g_icmp_eq (pc' := 752) (tgt := 1355) C dL_law_749 (by decide) rfl (fun c_749_1 => ?_) (fun c_749_1 => absurd c_749_1 (by exact fun q => q (h7r.trans hr6.symm)))
  refine g_lv (lv' := [(4, .int (nI (5 * i))), (3, .ref o0), (2, .ref u0), (1, .ref x0), (0, .ref b)]) [0, 1, 2, 3, 4] rfl ?_
  refine g_widen (k' := 100 + 10 * (i + 1)) (n' := 2000 + 50 * (i + 1)) (by omega) (by omega) ?_
  exact KN _ _ _ _ _ _ _ _ _ _ _ _ _ _ _ _ _ _ _ _ _ HRW HSW HDW HTW HB HK HI (by omega) HX7 HM6

set_option maxHeartbeats 4000000 in
set_option maxRecDepth 100000 in
theorem law_cost (hlc : LC l p s m meth c κ b L xs) (i : Nat) (hi : 5 * i + 5 ≤ L) {t9 : Nat} {wx wm : va_W} {ou : Nat → Int64} {n : Nat} {fk : Nat → Nat} {fs : Nat → Nat} {len : Nat} {fw : Nat → Nat} {ds : Nat} {dr : Nat → Option Nat} {mc : Nat} {th : Nat → Bool} {rc : Nat → Option Nat} {ck : Nat → Nat} {pm : Nat → Nat} {ep : Nat → Nat → Option Nat} {ba : Nat} {dy : Nat} {iv : Nat → Nat → Nat} {dv : Nat → Nat → Nat} (HRW : RW n fk fs) (HSW : SW len fw) (HDW : DW ds dr) (HTW : TW mc th rc ck pm ep) (HB : ba ≤ 50) (HK : KW iv dv) (HI : IW iv) (hdy : dy ≤ 100 * i) (HX : LX κ x0 n fk fs len fw ds dr mc th rc ck pm ep ba dy iv dv wx) (HM : LM κ u0 t9 n fk fs len fw ds dr mc th rc ck pm ep ba dy iv dv wm) (KN : NX p l e s m below meth c κ b x0 u0 o0 i) : LG p l e s m below meth c κ b x0 u0 o0 i 754 (100 + 10 * i) (2000 + 50 * i) wx ou wm := by
  obtain ⟨C, YY, hX, hbl, hL, hst⟩ := hlc
  have hA : ∀ q, s.heap.size ≤ q → (fun q => s.heap.size ≤ q) q := fun _ h => h
  have hbA : ¬ (fun q => s.heap.size ≤ q) b := Nat.not_le.mpr hbl
  refine g_aload_n (pc' := 755) C 3 dL_law_754 rfl rfl rfl ?_
  obtain ⟨qx, fx9, hqx⟩ := LX.recv HX
  refine g_fMi (pc' := 758) (wr := outW κ o0 ou ++ wm) (wc := wx) C hA lk_RL_128 (hX_cost l κ x0 HRW HSW HDW HTW HB HK HI (by omega) HX) (pm3 _ _ _) qx hqx rfl rfl (Nat.le_of_ble_eq_true rfl) ⟨(by show 6 + 9 ≤ 2048; decide), (by show 219 + 1 + 40 * 6 ≤ 84000; decide)⟩ ⟨(by show _ ≤ 788806; omega), (by show _ ≤ 6729686; omega)⟩ rfl dL_law_755 rfl (fun r7 w7 h7 => ?_)
  obtain ⟨HX7, h7r⟩ := h7
  refine g_perm (ws' := ((w7 ++ outW κ o0 ou) ++ wm)) (pm3 _ _ _).symm ?_
  refine g_aload_n (pc' := 759) C 2 dL_law_758 rfl rfl rfl ?_
  obtain ⟨qm, fm9, hqm⟩ := LM.recv HM
  refine g_fMi (pc' := 762) (wr := w7 ++ outW κ o0 ou) (wc := wm) C hA lk_RL_131 (hM_cost l κ u0  HRW HSW HDW HTW HB HK HI (by omega) HM) (List.Perm.refl _) qm hqm rfl rfl (Nat.le_of_ble_eq_true rfl) ⟨(by show 4 + 9 ≤ 2048; decide), (by show 219 + 1 + 40 * 4 ≤ 84000; decide)⟩ ⟨(by show _ ≤ 788806; omega), (by show _ ≤ 6729686; omega)⟩ rfl dL_law_759 rfl (fun r6 w6 h6 => ?_)
  obtain ⟨HM6, hr6⟩ := h6
  refine g_icmp_eq (pc' := 765) (tgt := 1355) C dL_law_762 (by decide) rfl (fun c_762_1 => ?_) (fun c_762_1 => absurd c_762_1 (by exact fun q => q (h7r.trans hr6.symm)))
  refine g_lv (lv' := [(4, .int (nI (5 * i))), (3, .ref o0), (2, .ref u0), (1, .ref x0), (0, .ref b)]) [0, 1, 2, 3, 4] rfl ?_
  refine g_widen (k' := 100 + 10 * (i + 1)) (n' := 2000 + 50 * (i + 1)) (by omega) (by omega) ?_
  exact KN _ _ _ _ _ _ _ _ _ _ _ _ _ _ _ _ _ _ _ _ _ HRW HSW HDW HTW HB HK HI (by omega) HX7 HM6

set_option maxHeartbeats 4000000 in
set_option maxRecDepth 100000 in
theorem law_costByAll (hlc : LC l p s m meth c κ b L xs) (i : Nat) (hi : 5 * i + 5 ≤ L) {t9 : Nat} {wx wm : va_W} {ou : Nat → Int64} {n : Nat} {fk : Nat → Nat} {fs : Nat → Nat} {len : Nat} {fw : Nat → Nat} {ds : Nat} {dr : Nat → Option Nat} {mc : Nat} {th : Nat → Bool} {rc : Nat → Option Nat} {ck : Nat → Nat} {pm : Nat → Nat} {ep : Nat → Nat → Option Nat} {ba : Nat} {dy : Nat} {iv : Nat → Nat → Nat} {dv : Nat → Nat → Nat} (HRW : RW n fk fs) (HSW : SW len fw) (HDW : DW ds dr) (HTW : TW mc th rc ck pm ep) (HB : ba ≤ 50) (HK : KW iv dv) (HI : IW iv) (hdy : dy ≤ 100 * i) (HX : LX κ x0 n fk fs len fw ds dr mc th rc ck pm ep ba dy iv dv wx) (HM : LM κ u0 t9 n fk fs len fw ds dr mc th rc ck pm ep ba dy iv dv wm) (KN : NX p l e s m below meth c κ b x0 u0 o0 i) : LG p l e s m below meth c κ b x0 u0 o0 i 767 (100 + 10 * i) (2000 + 50 * i) wx ou wm := by
  obtain ⟨C, YY, hX, hbl, hL, hst⟩ := hlc
  have hA : ∀ q, s.heap.size ≤ q → (fun q => s.heap.size ≤ q) q := fun _ h => h
  have hbA : ¬ (fun q => s.heap.size ≤ q) b := Nat.not_le.mpr hbl
  refine g_aload_n (pc' := 768) C 3 dL_law_767 rfl rfl rfl ?_
  obtain ⟨qx, fx9, hqx⟩ := LX.recv HX
  refine g_fMi (pc' := 771) (wr := outW κ o0 ou ++ wm) (wc := wx) C hA lk_RL_132 (hX_costByAll l κ x0 HRW HSW HDW HTW HB HK HI (by omega) HX) (pm3 _ _ _) qx hqx rfl rfl (Nat.le_of_ble_eq_true rfl) ⟨(by show 10 + 9 ≤ 2048; decide), (by show 219 + 1 + 40 * 10 ≤ 84000; decide)⟩ ⟨(by show _ ≤ 788806; omega), (by show _ ≤ 6729686; omega)⟩ rfl dL_law_768 rfl (fun r7 w7 h7 => ?_)
  obtain ⟨HX7, h7r⟩ := h7
  refine g_perm (ws' := ((w7 ++ outW κ o0 ou) ++ wm)) (pm3 _ _ _).symm ?_
  refine g_aload_n (pc' := 772) C 2 dL_law_771 rfl rfl rfl ?_
  obtain ⟨qm, fm9, hqm⟩ := LM.recv HM
  refine g_fMi (pc' := 775) (wr := w7 ++ outW κ o0 ou) (wc := wm) C hA lk_RL_135 (hM_costByAll l κ u0  HRW HSW HDW HTW HB HK HI (by omega) HM) (List.Perm.refl _) qm hqm rfl rfl (Nat.le_of_ble_eq_true rfl) ⟨(by show 4 + 9 ≤ 2048; decide), (by show 219 + 1 + 40 * 4 ≤ 84000; decide)⟩ ⟨(by show _ ≤ 788806; omega), (by show _ ≤ 6729686; omega)⟩ rfl dL_law_772 rfl (fun r6 w6 h6 => ?_)
  obtain ⟨HM6, hr6⟩ := h6
  refine g_icmp_eq (pc' := 778) (tgt := 1355) C dL_law_775 (by decide) rfl (fun c_775_1 => ?_) (fun c_775_1 => absurd c_775_1 (by exact fun q => q (h7r.trans hr6.symm)))
  refine g_lv (lv' := [(4, .int (nI (5 * i))), (3, .ref o0), (2, .ref u0), (1, .ref x0), (0, .ref b)]) [0, 1, 2, 3, 4] rfl ?_
  refine g_widen (k' := 100 + 10 * (i + 1)) (n' := 2000 + 50 * (i + 1)) (by omega) (by omega) ?_
  exact KN _ _ _ _ _ _ _ _ _ _ _ _ _ _ _ _ _ _ _ _ _ HRW HSW HDW HTW HB HK HI (by omega) HX7 HM6
end LAW
