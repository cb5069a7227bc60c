section LAW
variable {p : Program} {l : Launch} {e : Env} {s : State} {m : MethodId} {below : List Frame} {meth : Method} {c : Code} {κ : KK} {b L x0 t0 c0 v0 d0 : Nat} {xs : Nat → Int32}
set_option maxHeartbeats 4000000 in
set_option maxRecDepth 100000 in
theorem law_635 (hlc : LC l p s m meth c κ b L xs) (i : Nat) (hi : i < 70) {wx : va_W} {n : Nat} {fk : Nat → Nat} {fs : Nat → Nat} {len : Nat} {fw : Nat → Nat} {dr : Nat → Option Nat} {mc : Nat} {th : Nat → Bool} {rc : Nat → Option Nat} {ck : Nat → Nat} {pm : Nat → Nat} {ep : Nat → Nat → Option Nat} {ba : Nat} {dy : Nat} {iv : Nat → Nat → Nat} {dv : Nat → Nat → Nat} (HRW : RW n fk fs) (HSW : SW len fw) (HDW : DW 0 dr) (HTW : TW mc th rc ck pm ep) (HB : ba ≤ 50) (HK : KW iv dv) (HI : IW iv) (hdy : dy ≤ 100 * i) (HC : CW mc iv) (HX : LX κ x0 n fk fs len fw 0 dr mc th rc ck pm ep ba dy iv dv wx) (KN : NXT p l e s m below meth c κ b x0 t0 c0 v0 d0 i) {w9 : Int32} {h9 e9 r9 : Nat} (hh : h9 < 16) (hr9 : r9 < 3) (he : 0 < mc → e9 < mc) : G p l e room_1 s m #[Value.ref b] below meth c κ 23 (JM (fun q => s.heap.size ≤ q) s) ([(t0, .inl (κ.2 0, 8, .inl (nA (bN th)))), (c0, .inl (κ.2 0, 8, .inl (nA ck))), (v0, .inl (κ.2 0, 24, .inl (nA (fl8 iv)))), (d0, .inl (κ.2 0, 24, .inl (nA (fl8 dv))))] ++ wx) (100 + 200 * i) (2000 + 2000 * i) (lw_Z below #[Value.ref b] s) 635 [(11, .int (nI i)), (10, .int (nI dy)), (9, .int (nI ba)), (8, .int (nI len)), (7, .int (nI n)), (6, .int (nI mc)), (5, .ref d0), (4, .ref v0), (3, .ref c0), (2, .ref t0), (1, .ref x0), (0, .ref b), (13, .int w9), (14, .int (nI h9)), (15, .int (nI 1)), (16, .int (nI e9)), (17, .int (nI r9)), (18, .int (nI (8 * r9 + e9)))] [] := by
  skip
  have hlcQ := hlc
  obtain ⟨C, YY, hX, hbl, hL, hst⟩ := hlcQ
  have hA : ∀ q, s.heap.size ≤ q → (fun q => s.heap.size ≤ q) q := fun _ h => h
  have hbA : ¬ (fun q => s.heap.size ≤ q) b := Nat.not_le.mpr hbl
  have hl6 := HSW.1
  have hm8 := HTW.1
  have hn6 := HRW.1
  refine g_iload (pc' := 637) C 13 dL_law_635 rfl rfl ?_
  refine g_bipush (pc' := 639) (v := nI 11) C dL_law_637 (by decide) rfl ?_
  refine g_icmp_neN (pc' := 642) (tgt := 681) C (by first | assumption | omega) (by first | assumption | omega) dL_law_639 (by decide) rfl (fun c_639_1 => ?_) (fun c_639_1 => ?_)
  · refine g_lv (lv' := [(11, .int (nI i)), (10, .int (nI dy)), (9, .int (nI ba)), (8, .int (nI len)), (7, .int (nI n)), (6, .int (nI mc)), (5, .ref d0), (4, .ref v0), (3, .ref c0), (2, .ref t0), (1, .ref x0), (0, .ref b), (13, .int w9), (14, .int (nI h9)), (15, .int (nI 1)), (16, .int (nI e9)), (17, .int (nI r9)), (18, .int (nI (8 * r9 + e9)))]) [0, 1, 2, 3, 4, 5, 6, 7, 8, 9, 10, 11, 12, 13, 14, 15, 16, 17] rfl ?_
    refine g_widen (k' := 100 + 200 * i) (n' := 2000 + 2000 * i) (by omega) (by omega) ?_
    exact law_681 hlc i hi HRW HSW HDW HTW HB HK HI (by omega) HC HX KN hh hr9 he
  · refine g_iconst (pc' := 643) (v := nI 1) C dL_law_642 (by decide) rfl ?_
    refine g_iload (pc' := 645) C 12 dL_law_643 rfl rfl ?_
    refine g_bipush (pc' := 647) (v := nI 9) C dL_law_645 (by decide) rfl ?_
    refine g_callPS (pc' := 650) C lk_RL_31 (kL_low l κ w9 9 (by omega) (by omega)) [] rfl rfl (Nat.le_of_ble_eq_true rfl) ⟨(by show 0 + 9 ≤ 2048; decide), (by show 219 + 2 + 40 * (0) ≤ 84000; decide)⟩ ⟨(by show _ ≤ 600104; omega), (by show _ ≤ 7301314; omega)⟩ rfl dL_law_647 rfl (fun r h => ?_)
    obtain ⟨x_647_2, hx_647_2, rfl⟩ := h
    refine g_iadd (pc' := 651) (v := nI (1 + x_647_2)) C dL_law_650 (nI_add _ _) rfl ?_
    refine g_istore (pc' := 653) (lv' := [(19, .int (nI (1 + x_647_2))), (11, .int (nI i)), (10, .int (nI dy)), (9, .int (nI ba)), (8, .int (nI len)), (7, .int (nI n)), (6, .int (nI mc)), (5, .ref d0), (4, .ref v0), (3, .ref c0), (2, .ref t0), (1, .ref x0), (0, .ref b), (13, .int w9), (14, .int (nI h9)), (15, .int (nI 1)), (16, .int (nI e9)), (17, .int (nI r9)), (18, .int (nI (8 * r9 + e9)))]) C dL_law_651 (by decide) rfl rfl ?_
    refine g_iload (pc' := 655) C 2 dL_law_653 rfl rfl ?_
    refine g_iload (pc' := 657) C 0 dL_law_655 rfl rfl ?_
    refine g_iadd (pc' := 658) (v := nI (dy + (1 + x_647_2))) C dL_law_657 (nI_add _ _) rfl ?_
    refine g_istore (pc' := 660) (lv' := [(10, .int (nI (dy + (1 + x_647_2)))), (19, .int (nI (1 + x_647_2))), (11, .int (nI i)), (9, .int (nI ba)), (8, .int (nI len)), (7, .int (nI n)), (6, .int (nI mc)), (5, .ref d0), (4, .ref v0), (3, .ref c0), (2, .ref t0), (1, .ref x0), (0, .ref b), (13, .int w9), (14, .int (nI h9)), (15, .int (nI 1)), (16, .int (nI e9)), (17, .int (nI r9)), (18, .int (nI (8 * r9 + e9)))]) C dL_law_658 (by decide) rfl rfl ?_
    refine g_aload_n (pc' := 661) C 11 dL_law_660 rfl rfl rfl ?_
    refine g_iload (pc' := 663) C 1 dL_law_661 rfl rfl ?_
    obtain ⟨qx_3, fx_3, hqx_3⟩ := LX.recv HX
    refine g_fQ (pc' := 666) (wr := [(t0, .inl (κ.2 0, 8, .inl (nA (bN th)))), (c0, .inl (κ.2 0, 8, .inl (nA ck))), (v0, .inl (κ.2 0, 24, .inl (nA (fl8 iv)))), (d0, .inl (κ.2 0, 24, .inl (nA (fl8 dv))))]) (wc := wx) C YY hA ml_RL_60 lk_RL_60 (hp_pass l hst κ x0 (1 + x_647_2) HRW HSW HDW HTW HB HK HI (by omega) HX ⟨by omega, by omega⟩) (fun _ h => h) (List.Perm.refl _) qx_3 hqx_3 rfl rfl (Nat.le_of_ble_eq_true rfl) ⟨(by show 0 + 9 ≤ 2048; decide), (by show 219 + 2 + 40 * (0) ≤ 84000; decide)⟩ ⟨(by show _ ≤ 600104; omega), (by show _ ≤ 7301314; omega)⟩ rfl dL_law_663 rfl (fun r_663_3 w_663_3 h_663_3 => ?_)
    obtain ⟨HX_663_3, hr_663_3⟩ := h_663_3
    have er_663_3 : r_663_3 = nI (dy + (1 + x_647_2)) := hr_663_3
    subst er_663_3
    refine g_iload (pc' := 668) C 0 dL_law_666 rfl rfl ?_
    refine g_icmp_neN (pc' := 671) (tgt := 675) C (by first | assumption | omega) (by first | assumption | omega) dL_law_668 (by decide) rfl (fun c_668_4 => absurd c_668_4 (by exact fun q => q rfl)) (fun c_668_4 => ?_)
    refine g_iconst (pc' := 672) (v := nI 1) C dL_law_671 (by decide) rfl ?_
    refine g_goto (tgt := 676) C dL_law_672 (by decide) ?_
    refine g_istore (pc' := 678) (lv' := [(15, .int (nI 1)), (10, .int (nI (dy + (1 + x_647_2)))), (19, .int (nI (1 + x_647_2))), (11, .int (nI i)), (9, .int (nI ba)), (8, .int (nI len)), (7, .int (nI n)), (6, .int (nI mc)), (5, .ref d0), (4, .ref v0), (3, .ref c0), (2, .ref t0), (1, .ref x0), (0, .ref b), (13, .int w9), (14, .int (nI h9)), (16, .int (nI e9)), (17, .int (nI r9)), (18, .int (nI (8 * r9 + e9)))]) C dL_law_676 (by decide) rfl rfl ?_
    refine g_goto (tgt := 880) C dL_law_678 (by decide) ?_
    refine g_lv (lv' := [(11, .int (nI i)), (10, .int (nI (dy + (1 + x_647_2)))), (9, .int (nI ba)), (8, .int (nI len)), (7, .int (nI n)), (6, .int (nI mc)), (5, .ref d0), (4, .ref v0), (3, .ref c0), (2, .ref t0), (1, .ref x0), (0, .ref b), (15, .int (nI 1)), (17, .int (nI r9))]) [3, 1, 4, 5, 6, 7, 8, 9, 10, 11, 12, 13, 0, 17] rfl ?_
    refine g_widen (k' := 100 + 200 * i + 40) (n' := 2000 + 2000 * i + 400) (by omega) (by omega) ?_
    exact law_880 hlc i hi HRW HSW HDW HTW HB HK HI (by omega) HC HX_663_3 KN hr9
set_option maxHeartbeats 4000000 in
set_option maxRecDepth 100000 in
theorem law_523 (hlc : LC l p s m meth c κ b L xs) (i : Nat) (hi : i < 70) {wx : va_W} {n : Nat} {fk : Nat → Nat} {fs : Nat → Nat} {len : Nat} {fw : Nat → Nat} {dr : Nat → Option Nat} {mc : Nat} {th : Nat → Bool} {rc : Nat → Option Nat} {ck : Nat → Nat} {pm : Nat → Nat} {ep : Nat → Nat → Option Nat} {ba : Nat} {dy : Nat} {iv : Nat → Nat → Nat} {dv : Nat → Nat → Nat} (HRW : RW n fk fs) (HSW : SW len fw) (HDW : DW 0 dr) (HTW : TW mc th rc ck pm ep) (HB : ba ≤ 50) (HK : KW iv dv) (HI : IW iv) (hdy : dy ≤ 100 * i) (HC : CW mc iv) (HX : LX κ x0 n fk fs len fw 0 dr mc th rc ck pm ep ba dy iv dv wx) (KN : NXT p l e s m below meth c κ b x0 t0 c0 v0 d0 i) {w9 : Int32} {h9 e9 r9 : Nat} (hh : h9 < 16) (hr9 : r9 < 3) (he : 0 < mc → e9 < mc) : G p l e room_1 s m #[Value.ref b] below meth c κ 23 (JM (fun q => s.heap.size ≤ q) s) ([(t0, .inl (κ.2 0, 8, .inl (nA (bN th)))), (c0, .inl (κ.2 0, 8, .inl (nA ck))), (v0, .inl (κ.2 0, 24, .inl (nA (fl8 iv)))), (d0, .inl (κ.2 0, 24, .inl (nA (fl8 dv))))] ++ wx) (100 + 200 * i) (2000 + 2000 * i) (lw_Z below #[Value.ref b] s) 523 [(11, .int (nI i)), (10, .int (nI dy)), (9, .int (nI ba)), (8, .int (nI len)), (7, .int (nI n)), (6, .int (nI mc)), (5, .ref d0), (4, .ref v0), (3, .ref c0), (2, .ref t0), (1, .ref x0), (0, .ref b), (13, .int w9), (14, .int (nI h9)), (15, .int (nI 1)), (16, .int (nI e9)), (17, .int (nI r9)), (18, .int (nI (8 * r9 + e9)))] [] := by
  skip
  have hlcQ := hlc
  obtain ⟨C, YY, hX, hbl, hL, hst⟩ := hlcQ
  have hA : ∀ q, s.heap.size ≤ q → (fun q => s.heap.size ≤ q) q := fun _ h => h
  have hbA : ¬ (fun q => s.heap.size ≤ q) b := Nat.not_le.mpr hbl
  have hl6 := HSW.1
  have hm8 := HTW.1
  have hn6 := HRW.1
  refine g_iload (pc' := 525) C 13 dL_law_523 rfl rfl ?_
  refine g_bipush (pc' := 527) (v := nI 10) C dL_law_525 (by decide) rfl ?_
  refine g_icmp_neN (pc' := 530) (tgt := 635) C (by first | assumption | omega) (by first | assumption | omega) dL_law_527 (by decide) rfl (fun c_527_1 => ?_) (fun c_527_1 => ?_)
  · refine g_lv (lv' := [(11, .int (nI i)), (10, .int (nI dy)), (9, .int (nI ba)), (8, .int (nI len)), (7, .int (nI n)), (6, .int (nI mc)), (5, .ref d0), (4, .ref v0), (3, .ref c0), (2, .ref t0), (1, .ref x0), (0, .ref b), (13, .int w9), (14, .int (nI h9)), (15, .int (nI 1)), (16, .int (nI e9)), (17, .int (nI r9)), (18, .int (nI (8 * r9 + e9)))]) [0, 1, 2, 3, 4, 5, 6, 7, 8, 9, 10, 11, 12, 13, 14, 15, 16, 17] rfl ?_
    refine g_widen (k' := 100 + 200 * i) (n' := 2000 + 2000 * i) (by omega) (by omega) ?_
    exact law_635 hlc i hi HRW HSW HDW HTW HB HK HI (by omega) HC HX KN hh hr9 he
  · refine g_iload (pc' := 532) C 5 dL_law_530 rfl rfl ?_
    refine g_if_leN (pc' := 535) (tgt := 635) C (by first | assumption | omega) dL_law_532 (by decide) rfl (fun c_532_2 => ?_) (fun c_532_2 => ?_)
    · refine g_lv (lv' := [(11, .int (nI i)), (10, .int (nI dy)), (9, .int (nI ba)), (8, .int (nI len)), (7, .int (nI n)), (6, .int (nI mc)), (5, .ref d0), (4, .ref v0), (3, .ref c0), (2, .ref t0), (1, .ref x0), (0, .ref b), (13, .int w9), (14, .int (nI h9)), (15, .int (nI 1)), (16, .int (nI e9)), (17, .int (nI r9)), (18, .int (nI (8 * r9 + e9)))]) [0, 1, 2, 3, 4, 5, 6, 7, 8, 9, 10, 11, 12, 13, 14, 15, 16, 17] rfl ?_
      refine g_widen (k' := 100 + 200 * i) (n' := 2000 + 2000 * i) (by omega) (by omega) ?_
      exact law_635 hlc i hi HRW HSW HDW HTW HB HK HI (by omega) HC HX KN hh hr9 he
    · have hem := he c_532_2
      refine g_aload_n (pc' := 536) C 9 dL_law_535 rfl rfl rfl ?_
      refine g_iload (pc' := 538) C 15 dL_law_536 rfl rfl ?_
      refine g_ialdN (pc' := 539) C 0 (f := (bN th)) rfl e9 (by first | assumption | omega) (by decide) dL_law_538 rfl ?_
      refine g_iconst (pc' := 540) (v := nI 1) C dL_law_539 (by decide) rfl ?_
      refine g_icmp_neN (pc' := 543) (tgt := 635) C (Nat.lt_of_le_of_lt (bN_le _ _) (by decide)) (by first | assumption | omega) dL_law_540 (by decide) rfl (fun c_540_3 => ?_) (fun c_540_3 => ?_)
      · refine g_lv (lv' := [(11, .int (nI i)), (10, .int (nI dy)), (9, .int (nI ba)), (8, .int (nI len)), (7, .int (nI n)), (6, .int (nI mc)), (5, .ref d0), (4, .ref v0), (3, .ref c0), (2, .ref t0), (1, .ref x0), (0, .ref b), (13, .int w9), (14, .int (nI h9)), (15, .int (nI 1)), (16, .int (nI e9)), (17, .int (nI r9)), (18, .int (nI (8 * r9 + e9)))]) [0, 1, 2, 3, 4, 5, 6, 7, 8, 9, 10, 11, 12, 13, 14, 15, 16, 17] rfl ?_
        refine g_widen (k' := 100 + 200 * i) (n' := 2000 + 2000 * i) (by omega) (by omega) ?_
        exact law_635 hlc i hi HRW HSW HDW HTW HB HK HI (by omega) HC HX KN hh hr9 he
      · have hb1 := c_540_3
        refine g_iload (pc' := 545) C 12 dL_law_543 rfl rfl ?_
        refine g_bipush (pc' := 547) (v := nI 6) C dL_law_545 (by decide) rfl ?_
        refine g_ishr (pc' := 548) (v := w9 >>> ((nI 6) &&& 31)) C dL_law_547 rfl rfl ?_
        refine g_iconst (pc' := 549) (v := nI 3) C dL_law_548 (by decide) rfl ?_
        refine g_callPS (pc' := 552) C lk_RL_31 (kL_low l κ (w9 >>> ((nI 6) &&& 31)) 3 (by omega) (by omega)) [] rfl rfl (Nat.le_of_ble_eq_true rfl) ⟨(by show 0 + 9 ≤ 2048; decide), (by show 219 + 2 + 40 * (0) ≤ 84000; decide)⟩ ⟨(by show _ ≤ 600104; omega), (by show _ ≤ 7301314; omega)⟩ rfl dL_law_549 rfl (fun r h => ?_)
        obtain ⟨x_549_4, hx_549_4, rfl⟩ := h
        refine g_if_neN (pc' := 555) (tgt := 635) C (by first | assumption | omega) dL_law_552 (by decide) rfl (fun c_552_5 => ?_) (fun c_552_5 => ?_)
        · refine g_lv (lv' := [(11, .int (nI i)), (10, .int (nI dy)), (9, .int (nI ba)), (8, .int (nI len)), (7, .int (nI n)), (6, .int (nI mc)), (5, .ref d0), (4, .ref v0), (3, .ref c0), (2, .ref t0), (1, .ref x0), (0, .ref b), (13, .int w9), (14, .int (nI h9)), (15, .int (nI 1)), (16, .int (nI e9)), (17, .int (nI r9)), (18, .int (nI (8 * r9 + e9)))]) [0, 1, 2, 3, 4, 5, 6, 7, 8, 9, 10, 11, 12, 13, 14, 15, 16, 17] rfl ?_
          refine g_widen (k' := 100 + 200 * i) (n' := 2000 + 2000 * i) (by omega) (by omega) ?_
          exact law_635 hlc i hi HRW HSW HDW HTW HB HK HI (by omega) HC HX KN hh hr9 he
        · refine g_iconst (pc' := 556) (v := nI 0) C dL_law_555 (by decide) rfl ?_
          refine g_istore (pc' := 558) (lv' := [(19, .int (nI 0)), (11, .int (nI i)), (10, .int (nI dy)), (9, .int (nI ba)), (8, .int (nI len)), (7, .int (nI n)), (6, .int (nI mc)), (5, .ref d0), (4, .ref v0), (3, .ref c0), (2, .ref t0), (1, .ref x0), (0, .ref b), (13, .int w9), (14, .int (nI h9)), (15, .int (nI 1)), (16, .int (nI e9)), (17, .int (nI r9)), (18, .int (nI (8 * r9 + e9)))]) C dL_law_556 (by decide) rfl rfl ?_
          refine g_iconst (pc' := 559) (v := nI 0) C dL_law_558 (by decide) rfl ?_
          refine g_istore (pc' := 561) (lv' := [(20, .int (nI 0)), (19, .int (nI 0)), (11, .int (nI i)), (10, .int (nI dy)), (9, .int (nI ba)), (8, .int (nI len)), (7, .int (nI n)), (6, .int (nI mc)), (5, .ref d0), (4, .ref v0), (3, .ref c0), (2, .ref t0), (1, .ref x0), (0, .ref b), (13, .int w9), (14, .int (nI h9)), (15, .int (nI 1)), (16, .int (nI e9)), (17, .int (nI r9)), (18, .int (nI (8 * r9 + e9)))]) C dL_law_559 (by decide) rfl rfl ?_
          have lp_a : ∀ (fu_a : Nat) (wl_a : va_W) (k9 : Nat) (nn : Nat), (LX κ x0 n fk fs len fw 0 dr mc th rc ck pm ep ba dy iv dv wl_a) → (k9 ≤ 3) → (nn = cntB (fun r => decide (0 < iv r e9)) k9) → (3 - k9) < fu_a → G p l e room_1 s m #[Value.ref b] below meth c κ 23 (JM (fun q => s.heap.size ≤ q) s) ([(t0, .inl (κ.2 0, 8, .inl (nA (bN th)))), (c0, .inl (κ.2 0, 8, .inl (nA ck))), (v0, .inl (κ.2 0, 24, .inl (nA (drf (fl8 iv) e9 k9)))), (d0, .inl (κ.2 0, 24, .inl (nA (fl8 dv))))] ++ wl_a) (100 + 200 * i) (2000 + 2000 * i) (lw_Z below #[Value.ref b] s) 561 [(20, .int (nI k9)), (19, .int (nI nn)), (11, .int (nI i)), (10, .int (nI dy)), (9, .int (nI ba)), (8, .int (nI len)), (7, .int (nI n)), (6, .int (nI mc)), (5, .ref d0), (4, .ref v0), (3, .ref c0), (2, .ref t0), (1, .ref x0), (0, .ref b), (13, .int w9), (14, .int (nI h9)), (15, .int (nI 1)), (16, .int (nI e9)), (17, .int (nI r9)), (18, .int (nI (8 * r9 + e9)))] [] := by
            intro fu_a
            induction fu_a with
            | zero => intro wl_a k9 nn HL_a hk9 hnn hmu; exact absurd hmu (Nat.not_lt_zero _)
            | succ fu_a ih_a =>
              intro wl_a k9 nn HL_a hk9 hnn hmu_a
              have hnl : nn ≤ 3 := by rw [hnn]; exact Nat.le_trans (cntB_le _ k9) hk9
              refine g_iload (pc' := 563) C 0 dL_law_561 rfl rfl ?_
              refine g_iconst (pc' := 564) (v := nI 3) C dL_law_563 (by decide) rfl ?_
              refine g_icmp_geN (pc' := 567) (tgt := 609) C (by first | assumption | omega) (by first | assumption | omega) dL_law_564 (by decide) rfl (fun c_564_6 => ?_) (fun c_564_6 => ?_)
              · refine g_aload_n (pc' := 610) C 11 dL_law_609 rfl rfl rfl ?_
                refine g_iload (pc' := 612) C 17 dL_law_610 rfl rfl ?_
                refine g_iconst (pc' := 613) (v := nI 0) C dL_law_612 (by decide) rfl ?_
                refine g_iastN (pc' := 614) (ws' := ([(t0, .inl (κ.2 0, 8, .inl (nA (va_up (bN th) e9 0)))), (c0, .inl (κ.2 0, 8, .inl (nA ck))), (v0, .inl (κ.2 0, 24, .inl (nA (drf (fl8 iv) e9 k9)))), (d0, .inl (κ.2 0, 24, .inl (nA (fl8 dv))))] ++ wl_a)) C 0 rfl e9 (by first | assumption | omega) (by decide) rfl dL_law_613 rfl ?_
                refine g_aload_n (pc' := 615) C 12 dL_law_614 rfl rfl rfl ?_
                refine g_iload (pc' := 617) C 17 dL_law_615 rfl rfl ?_
                obtain ⟨qx_7, fx_7, hqx_7⟩ := LX.recv HL_a
                refine g_fQ (pc' := 620) (wr := [(t0, .inl (κ.2 0, 8, .inl (nA (va_up (bN th) e9 0)))), (c0, .inl (κ.2 0, 8, .inl (nA ck))), (v0, .inl (κ.2 0, 24, .inl (nA (drf (fl8 iv) e9 k9)))), (d0, .inl (κ.2 0, 24, .inl (nA (fl8 dv))))]) (wc := wl_a) C YY hA ml_RL_57 lk_RL_57 (hp_takeOut l hst κ x0 e9 HRW HSW HDW HTW HB HK HI (by omega) HL_a (by omega) (bN_1 hb1)) (fun _ h => h) (List.Perm.refl _) qx_7 hqx_7 rfl rfl (Nat.le_of_ble_eq_true rfl) ⟨(by show 3 + 9 ≤ 2048; decide), (by show 219 + 4 + 40 * (3) ≤ 84000; decide)⟩ ⟨(by show _ ≤ 600104; omega), (by show _ ≤ 7301314; omega)⟩ rfl dL_law_617 rfl (fun r_617_7 w_617_7 h_617_7 => ?_)
                obtain ⟨HX_617_7, hr_617_7⟩ := h_617_7
                have er_617_7 : r_617_7 = nI nn := by rw [hr_617_7, hnn, show k9 = 3 by omega]
                subst er_617_7
                refine g_w (ws' := ([(t0, .inl (κ.2 0, 8, .inl (nA (bN (va_up th e9 false))))), (c0, .inl (κ.2 0, 8, .inl (nA ck))), (v0, .inl (κ.2 0, 24, .inl (nA (fl8 (drp iv e9 3))))), (d0, .inl (κ.2 0, 24, .inl (nA (fl8 dv))))] ++ w_617_7)) (by rw [bN_off, show k9 = 3 by omega, drf_fl (by omega)]) ?_
                refine g_iload (pc' := 622) C 1 dL_law_620 rfl rfl ?_
                refine g_icmp_neN (pc' := 625) (tgt := 629) C (by first | assumption | omega) (by first | assumption | omega) dL_law_622 (by decide) rfl (fun c_622_8 => absurd c_622_8 (by exact fun q => q rfl)) (fun c_622_8 => ?_)
                refine g_iconst (pc' := 626) (v := nI 1) C dL_law_625 (by decide) rfl ?_
                refine g_goto (tgt := 630) C dL_law_626 (by decide) ?_
                refine g_istore (pc' := 632) (lv' := [(15, .int (nI 1)), (20, .int (nI k9)), (19, .int (nI nn)), (11, .int (nI i)), (10, .int (nI dy)), (9, .int (nI ba)), (8, .int (nI len)), (7, .int (nI n)), (6, .int (nI mc)), (5, .ref d0), (4, .ref v0), (3, .ref c0), (2, .ref t0), (1, .ref x0), (0, .ref b), (13, .int w9), (14, .int (nI h9)), (16, .int (nI e9)), (17, .int (nI r9)), (18, .int (nI (8 * r9 + e9)))]) C dL_law_630 (by decide) rfl rfl ?_
                refine g_goto (tgt := 880) C dL_law_632 (by decide) ?_
                refine g_lv (lv' := [(11, .int (nI i)), (10, .int (nI dy)), (9, .int (nI ba)), (8, .int (nI len)), (7, .int (nI n)), (6, .int (nI mc)), (5, .ref d0), (4, .ref v0), (3, .ref c0), (2, .ref t0), (1, .ref x0), (0, .ref b), (15, .int (nI 1)), (17, .int (nI r9))]) [3, 4, 5, 6, 7, 8, 9, 10, 11, 12, 13, 14, 0, 18] rfl ?_
                refine g_widen (k' := 100 + 200 * i + 40) (n' := 2000 + 2000 * i + 400) (by omega) (by omega) ?_
                exact law_880 hlc i hi HRW HSW HDW (TW_off HTW _) HB (KW_drp HK _ 3) (IW_drp HI _ 3) (by omega) (CW_drp HC _ 3) HX_617_7 KN hr9
              · refine g_iload (pc' := 569) C 1 dL_law_567 rfl rfl ?_
                refine g_aload (pc' := 571) C 9 dL_law_569 rfl rfl ?_
                refine g_bipush (pc' := 573) (v := nI 8) C dL_law_571 (by decide) rfl ?_
                refine g_iload (pc' := 575) C 0 dL_law_573 rfl rfl ?_
                refine g_imul (pc' := 576) (v := nI (8 * k9)) C dL_law_575 (pk_mul _ _) rfl ?_
                refine g_iload (pc' := 578) C 17 dL_law_576 rfl rfl ?_
                refine g_iadd (pc' := 579) (v := nI ((8 * k9) + e9)) C dL_law_578 (nI_add _ _) rfl ?_
                refine g_ialdN (pc' := 580) C 2 (f := (drf (fl8 iv) e9 k9)) rfl ((8 * k9) + e9) (by first | assumption | omega) (by decide) dL_law_579 rfl ?_
                refine g_val (y := nI (iv k9 e9)) (by rw [drf_at (Nat.le_refl _), fl8_at (by omega)]) ?_
                refine g_if_leN (pc' := 583) (tgt := 587) C (by have h9 := (HK k9 e9).1; omega) dL_law_580 (by decide) rfl (fun c_580_9 => ?_) (fun c_580_9 => ?_)
                · refine g_iconst (pc' := 588) (v := nI 0) C dL_law_587 (by decide) rfl ?_
                  refine g_iadd (pc' := 589) (v := nI (nn + 0)) C dL_law_588 (nI_add _ _) rfl ?_
                  refine g_istore (pc' := 591) (lv' := [(19, .int (nI (nn + 0))), (20, .int (nI k9)), (11, .int (nI i)), (10, .int (nI dy)), (9, .int (nI ba)), (8, .int (nI len)), (7, .int (nI n)), (6, .int (nI mc)), (5, .ref d0), (4, .ref v0), (3, .ref c0), (2, .ref t0), (1, .ref x0), (0, .ref b), (13, .int w9), (14, .int (nI h9)), (15, .int (nI 1)), (16, .int (nI e9)), (17, .int (nI r9)), (18, .int (nI (8 * r9 + e9)))]) C dL_law_589 (by decide) rfl rfl ?_
                  refine g_aload (pc' := 593) C 9 dL_law_591 rfl rfl ?_
                  refine g_bipush (pc' := 595) (v := nI 8) C dL_law_593 (by decide) rfl ?_
                  refine g_iload (pc' := 597) C 1 dL_law_595 rfl rfl ?_
                  refine g_imul (pc' := 598) (v := nI (8 * k9)) C dL_law_597 (pk_mul _ _) rfl ?_
                  refine g_iload (pc' := 600) C 17 dL_law_598 rfl rfl ?_
                  refine g_iadd (pc' := 601) (v := nI ((8 * k9) + e9)) C dL_law_600 (nI_add _ _) rfl ?_
                  refine g_iconst (pc' := 602) (v := nI 0) C dL_law_601 (by decide) rfl ?_
                  refine g_iastN (pc' := 603) (ws' := ([(t0, .inl (κ.2 0, 8, .inl (nA (bN th)))), (c0, .inl (κ.2 0, 8, .inl (nA ck))), (v0, .inl (κ.2 0, 24, .inl (nA (va_up (drf (fl8 iv) e9 k9) ((8 * k9) + e9) 0)))), (d0, .inl (κ.2 0, 24, .inl (nA (fl8 dv))))] ++ wl_a)) C 2 rfl ((8 * k9) + e9) (by first | assumption | omega) (by decide) rfl dL_law_602 rfl ?_
                  refine g_iinc (pc' := 606) (v := nI (k9 + 1)) (lv' := [(20, .int (nI (k9 + 1))), (19, .int (nI (nn + 0))), (11, .int (nI i)), (10, .int (nI dy)), (9, .int (nI ba)), (8, .int (nI len)), (7, .int (nI n)), (6, .int (nI mc)), (5, .ref d0), (4, .ref v0), (3, .ref c0), (2, .ref t0), (1, .ref x0), (0, .ref b), (13, .int w9), (14, .int (nI h9)), (15, .int (nI 1)), (16, .int (nI e9)), (17, .int (nI r9)), (18, .int (nI (8 * r9 + e9)))]) C 1 dL_law_603 rfl (iincN1 _) (by decide) rfl rfl ?_
                  refine g_goto (tgt := 561) C dL_law_606 (by decide) ?_
                  refine g_w (ws' := ([(t0, .inl (κ.2 0, 8, .inl (nA (bN th)))), (c0, .inl (κ.2 0, 8, .inl (nA ck))), (v0, .inl (κ.2 0, 24, .inl (nA (drf (fl8 iv) e9 (k9 + 1))))), (d0, .inl (κ.2 0, 24, .inl (nA (fl8 dv))))] ++ wl_a)) rfl ?_
                  exact ih_a wl_a (k9 + 1) (nn + 0) HL_a (by first | assumption | omega) (by rw [cntB_f (decide_eq_false (by omega))]; omega) (by omega)
                · refine g_iconst (pc' := 584) (v := nI 1) C dL_law_583 (by decide) rfl ?_
                  refine g_goto (tgt := 588) C dL_law_584 (by decide) ?_
                  refine g_iadd (pc' := 589) (v := nI (nn + 1)) C dL_law_588 (nI_add _ _) rfl ?_
                  refine g_istore (pc' := 591) (lv' := [(19, .int (nI (nn + 1))), (20, .int (nI k9)), (11, .int (nI i)), (10, .int (nI dy)), (9, .int (nI ba)), (8, .int (nI len)), (7, .int (nI n)), (6, .int (nI mc)), (5, .ref d0), (4, .ref v0), (3, .ref c0), (2, .ref t0), (1, .ref x0), (0, .ref b), (13, .int w9), (14, .int (nI h9)), (15, .int (nI 1)), (16, .int (nI e9)), (17, .int (nI r9)), (18, .int (nI (8 * r9 + e9)))]) C dL_law_589 (by decide) rfl rfl ?_
                  refine g_aload (pc' := 593) C 9 dL_law_591 rfl rfl ?_
                  refine g_bipush (pc' := 595) (v := nI 8) C dL_law_593 (by decide) rfl ?_
                  refine g_iload (pc' := 597) C 1 dL_law_595 rfl rfl ?_
                  refine g_imul (pc' := 598) (v := nI (8 * k9)) C dL_law_597 (pk_mul _ _) rfl ?_
                  refine g_iload (pc' := 600) C 17 dL_law_598 rfl rfl ?_
                  refine g_iadd (pc' := 601) (v := nI ((8 * k9) + e9)) C dL_law_600 (nI_add _ _) rfl ?_
                  refine g_iconst (pc' := 602) (v := nI 0) C dL_law_601 (by decide) rfl ?_
                  refine g_iastN (pc' := 603) (ws' := ([(t0, .inl (κ.2 0, 8, .inl (nA (bN th)))), (c0, .inl (κ.2 0, 8, .inl (nA ck))), (v0, .inl (κ.2 0, 24, .inl (nA (va_up (drf (fl8 iv) e9 k9) ((8 * k9) + e9) 0)))), (d0, .inl (κ.2 0, 24, .inl (nA (fl8 dv))))] ++ wl_a)) C 2 rfl ((8 * k9) + e9) (by first | assumption | omega) (by decide) rfl dL_law_602 rfl ?_
                  refine g_iinc (pc' := 606) (v := nI (k9 + 1)) (lv' := [(20, .int (nI (k9 + 1))), (19, .int (nI (nn + 1))), (11, .int (nI i)), (10, .int (nI dy)), (9, .int (nI ba)), (8, .int (nI len)), (7, .int (nI n)), (6, .int (nI mc)), (5, .ref d0), (4, .ref v0), (3, .ref c0), (2, .ref t0), (1, .ref x0), (0, .ref b), (13, .int w9), (14, .int (nI h9)), (15, .int (nI 1)), (16, .int (nI e9)), (17, .int (nI r9)), (18, .int (nI (8 * r9 + e9)))]) C 1 dL_law_603 rfl (iincN1 _) (by decide) rfl rfl ?_
                  refine g_goto (tgt := 561) C dL_law_606 (by decide) ?_
                  refine g_w (ws' := ([(t0, .inl (κ.2 0, 8, .inl (nA (bN th)))), (c0, .inl (κ.2 0, 8, .inl (nA ck))), (v0, .inl (κ.2 0, 24, .inl (nA (drf (fl8 iv) e9 (k9 + 1))))), (d0, .inl (κ.2 0, 24, .inl (nA (fl8 dv))))] ++ wl_a)) rfl ?_
                  exact ih_a wl_a (k9 + 1) (nn + 1) HL_a (by first | assumption | omega) (by rw [cntB_t (decide_eq_true (by omega))]; omega) (by omega)
          refine g_w (ws' := ([(t0, .inl (κ.2 0, 8, .inl (nA (bN th)))), (c0, .inl (κ.2 0, 8, .inl (nA ck))), (v0, .inl (κ.2 0, 24, .inl (nA (drf (fl8 iv) e9 0)))), (d0, .inl (κ.2 0, 24, .inl (nA (fl8 dv))))] ++ wx)) rfl ?_
          exact lp_a 4 wx 0 0 HX (Nat.zero_le _) rfl (by omega)
set_option maxHeartbeats 4000000 in
set_option maxRecDepth 100000 in
theorem law_480 (hlc : LC l p s m meth c κ b L xs) (i : Nat) (hi : i < 70) {wx : va_W} {n : Nat} {fk : Nat → Nat} {fs : Nat → Nat} {len : Nat} {fw : Nat → Nat} {dr : Nat → Option Nat} {mc : Nat} {th : Nat → Bool} {rc : Nat → Option Nat} {ck : Nat → Nat} {pm : Nat → Nat} {ep : Nat → Nat → Option Nat} {ba : Nat} {dy : Nat} {iv : Nat → Nat → Nat} {dv : Nat → Nat → Nat} (HRW : RW n fk fs) (HSW : SW len fw) (HDW : DW 0 dr) (HTW : TW mc th rc ck pm ep) (HB : ba ≤ 50) (HK : KW iv dv) (HI : IW iv) (hdy : dy ≤ 100 * i) (HC : CW mc iv) (HX : LX κ x0 n fk fs len fw 0 dr mc th rc ck pm ep ba dy iv dv wx) (KN : NXT p l e s m below meth c κ b x0 t0 c0 v0 d0 i) {w9 : Int32} {h9 e9 r9 : Nat} (hh : h9 < 16) (hr9 : r9 < 3) (he : 0 < mc → e9 < mc) : G p l e room_1 s m #[Value.ref b] below meth c κ 23 (JM (fun q => s.heap.size ≤ q) s) ([(t0, .inl (κ.2 0, 8, .inl (nA (bN th)))), (c0, .inl (κ.2 0, 8, .inl (nA ck))), (v0, .inl (κ.2 0, 24, .inl (nA (fl8 iv)))), (d0, .inl (κ.2 0, 24, .inl (nA (fl8 dv))))] ++ wx) (100 + 200 * i) (2000 + 2000 * i) (lw_Z below #[Value.ref b] s) 480 [(11, .int (nI i)), (10, .int (nI dy)), (9, .int (nI ba)), (8, .int (nI len)), (7, .int (nI n)), (6, .int (nI mc)), (5, .ref d0), (4, .ref v0), (3, .ref c0), (2, .ref t0), (1, .ref x0), (0, .ref b), (13, .int w9), (14, .int (nI h9)), (15, .int (nI 1)), (16, .int (nI e9)), (17, .int (nI r9)), (18, .int (nI (8 * r9 + e9)))] [] := by
  skip
  have hlcQ := hlc
  obtain ⟨C, YY, hX, hbl, hL, hst⟩ := hlcQ
  have hA : ∀ q, s.heap.size ≤ q → (fun q => s.heap.size ≤ q) q := fun _ h => h
  have hbA : ¬ (fun q => s.heap.size ≤ q) b := Nat.not_le.mpr hbl
  have hl6 := HSW.1
  have hm8 := HTW.1
  have hn6 := HRW.1
  refine g_iload (pc' := 482) C 13 dL_law_480 rfl rfl ?_
  refine g_bipush (pc' := 484) (v := nI 9) C dL_law_482 (by decide) rfl ?_
  refine g_icmp_neN (pc' := 487) (tgt := 523) C (by first | assumption | omega) (by first | assumption | omega) dL_law_484 (by decide) rfl (fun c_484_1 => ?_) (fun c_484_1 => ?_)
  · refine g_lv (lv' := [(11, .int (nI i)), (10, .int (nI dy)), (9, .int (nI ba)), (8, .int (nI len)), (7, .int (nI n)), (6, .int (nI mc)), (5, .ref d0), (4, .ref v0), (3, .ref c0), (2, .ref t0), (1, .ref x0), (0, .ref b), (13, .int w9), (14, .int (nI h9)), (15, .int (nI 1)), (16, .int (nI e9)), (17, .int (nI r9)), (18, .int (nI (8 * r9 + e9)))]) [0, 1, 2, 3, 4, 5, 6, 7, 8, 9, 10, 11, 12, 13, 14, 15, 16, 17] rfl ?_
    refine g_widen (k' := 100 + 200 * i) (n' := 2000 + 2000 * i) (by omega) (by omega) ?_
    exact law_523 hlc i hi HRW HSW HDW HTW HB HK HI (by omega) HC HX KN hh hr9 he
  · refine g_iload (pc' := 489) C 2 dL_law_487 rfl rfl ?_
    refine g_istore (pc' := 491) (lv' := [(19, .int (nI ba)), (11, .int (nI i)), (10, .int (nI dy)), (9, .int (nI ba)), (8, .int (nI len)), (7, .int (nI n)), (6, .int (nI mc)), (5, .ref d0), (4, .ref v0), (3, .ref c0), (2, .ref t0), (1, .ref x0), (0, .ref b), (13, .int w9), (14, .int (nI h9)), (15, .int (nI 1)), (16, .int (nI e9)), (17, .int (nI r9)), (18, .int (nI (8 * r9 + e9)))]) C dL_law_489 (by decide) rfl rfl ?_
    refine g_iconst (pc' := 492) (v := nI 1) C dL_law_491 (by decide) rfl ?_
    refine g_iload (pc' := 494) C 13 dL_law_492 rfl rfl ?_
    refine g_bipush (pc' := 496) (v := nI 30) C dL_law_494 (by decide) rfl ?_
    refine g_callPS (pc' := 499) C lk_RL_31 (kL_low l κ w9 30 (by omega) (by omega)) [] rfl rfl (Nat.le_of_ble_eq_true rfl) ⟨(by show 0 + 9 ≤ 2048; decide), (by show 219 + 2 + 40 * (0) ≤ 84000; decide)⟩ ⟨(by show _ ≤ 600104; omega), (by show _ ≤ 7301314; omega)⟩ rfl dL_law_496 rfl (fun r h => ?_)
    obtain ⟨x_496_2, hx_496_2, rfl⟩ := h
    refine g_iadd (pc' := 500) (v := nI (1 + x_496_2)) C dL_law_499 (nI_add _ _) rfl ?_
    refine g_istore (pc' := 502) (lv' := [(9, .int (nI (1 + x_496_2))), (19, .int (nI ba)), (11, .int (nI i)), (10, .int (nI dy)), (8, .int (nI len)), (7, .int (nI n)), (6, .int (nI mc)), (5, .ref d0), (4, .ref v0), (3, .ref c0), (2, .ref t0), (1, .ref x0), (0, .ref b), (13, .int w9), (14, .int (nI h9)), (15, .int (nI 1)), (16, .int (nI e9)), (17, .int (nI r9)), (18, .int (nI (8 * r9 + e9)))]) C dL_law_500 (by decide) rfl rfl ?_
    refine g_aload_n (pc' := 503) C 11 dL_law_502 rfl rfl rfl ?_
    refine g_iload (pc' := 505) C 0 dL_law_503 rfl rfl ?_
    obtain ⟨qx_3, fx_3, hqx_3⟩ := LX.recv HX
    refine g_fQ (pc' := 508) (wr := [(t0, .inl (κ.2 0, 8, .inl (nA (bN th)))), (c0, .inl (κ.2 0, 8, .inl (nA ck))), (v0, .inl (κ.2 0, 24, .inl (nA (fl8 iv)))), (d0, .inl (κ.2 0, 24, .inl (nA (fl8 dv))))]) (wc := wx) C YY hA ml_RL_54 lk_RL_54 (hp_setBare l hst κ x0 (1 + x_496_2) HRW HSW HDW HTW HB HK HI (by omega) HX ⟨by omega, by omega⟩) (fun _ h => h) (List.Perm.refl _) qx_3 hqx_3 rfl rfl (Nat.le_of_ble_eq_true rfl) ⟨(by show 0 + 9 ≤ 2048; decide), (by show 219 + 3 + 40 * (0) ≤ 84000; decide)⟩ ⟨(by show _ ≤ 600104; omega), (by show _ ≤ 7301314; omega)⟩ rfl dL_law_505 rfl (fun r_505_3 w_505_3 h_505_3 => ?_)
    obtain ⟨HX_505_3, hr_505_3⟩ := h_505_3
    have er_505_3 : r_505_3 = nI ba := hr_505_3
    subst er_505_3
    refine g_iload (pc' := 510) C 1 dL_law_508 rfl rfl ?_
    refine g_icmp_neN (pc' := 513) (tgt := 517) C (by first | assumption | omega) (by first | assumption | omega) dL_law_510 (by decide) rfl (fun c_510_4 => absurd c_510_4 (by exact fun q => q rfl)) (fun c_510_4 => ?_)
    refine g_iconst (pc' := 514) (v := nI 1) C dL_law_513 (by decide) rfl ?_
    refine g_goto (tgt := 518) C dL_law_514 (by decide) ?_
    refine g_istore (pc' := 520) (lv' := [(15, .int (nI 1)), (9, .int (nI (1 + x_496_2))), (19, .int (nI ba)), (11, .int (nI i)), (10, .int (nI dy)), (8, .int (nI len)), (7, .int (nI n)), (6, .int (nI mc)), (5, .ref d0), (4, .ref v0), (3, .ref c0), (2, .ref t0), (1, .ref x0), (0, .ref b), (13, .int w9), (14, .int (nI h9)), (16, .int (nI e9)), (17, .int (nI r9)), (18, .int (nI (8 * r9 + e9)))]) C dL_law_518 (by decide) rfl rfl ?_
    refine g_goto (tgt := 880) C dL_law_520 (by decide) ?_
    refine g_lv (lv' := [(11, .int (nI i)), (10, .int (nI dy)), (9, .int (nI (1 + x_496_2))), (8, .int (nI len)), (7, .int (nI n)), (6, .int (nI mc)), (5, .ref d0), (4, .ref v0), (3, .ref c0), (2, .ref t0), (1, .ref x0), (0, .ref b), (15, .int (nI 1)), (17, .int (nI r9))]) [3, 4, 1, 5, 6, 7, 8, 9, 10, 11, 12, 13, 0, 17] rfl ?_
    refine g_widen (k' := 100 + 200 * i + 40) (n' := 2000 + 2000 * i + 400) (by omega) (by omega) ?_
    exact law_880 hlc i hi HRW HSW HDW HTW (by omega) HK HI (by omega) HC HX_505_3 KN hr9
end LAW
