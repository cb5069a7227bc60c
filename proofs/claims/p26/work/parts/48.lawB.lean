section LAW
variable {p : Program} {l : Launch} {e : Env} {s : State} {m : MethodId} {below : List Frame} {meth : Method} {c : Code} {κ : KK} {b L x0 t0 c0 v0 d0 : Nat} {xs : Nat → Int32}
set_option maxHeartbeats 4000000 in
set_option maxRecDepth 100000 in
theorem law_842 (hlc : LC l p s m meth c κ b L xs) (i : Nat) (hi : i < 70) {wx : va_W} {n : Nat} {fk : Nat → Nat} {fs : Nat → Nat} {len : Nat} {fw : Nat → Nat} {dr : Nat → Option Nat} {mc : Nat} {th : Nat → Bool} {rc : Nat → Option Nat} {ck : Nat → Nat} {pm : Nat → Nat} {ep : Nat → Nat → Option Nat} {ba : Nat} {dy : Nat} {iv : Nat → Nat → Nat} {dv : Nat → Nat → Nat} (HRW : RW n fk fs) (HSW : SW len fw) (HDW : DW 0 dr) (HTW : TW mc th rc ck pm ep) (HB : ba ≤ 50) (HK : KW iv dv) (HI : IW iv) (hdy : dy ≤ 100 * i) (HC : CW mc iv) (HX : LX κ x0 n fk fs len fw 0 dr mc th rc ck pm ep ba dy iv dv wx) (KN : NXT p l e s m below meth c κ b x0 t0 c0 v0 d0 i) {e9 r9 : Nat} (hr9 : r9 < 3) (he : e9 < mc) (ht : th e9 = true) : G p l e room_1 s m #[Value.ref b] below meth c κ 23 (JM (fun q => s.heap.size ≤ q) s) ([(t0, .inl (κ.2 0, 8, .inl (nA (bN th)))), (c0, .inl (κ.2 0, 8, .inl (nA ck))), (v0, .inl (κ.2 0, 24, .inl (nA (fl8 iv)))), (d0, .inl (κ.2 0, 24, .inl (nA (fl8 dv))))] ++ wx) (100 + 200 * i + 20) (2000 + 2000 * i + 200) (lw_Z below #[Value.ref b] s) 842 [(11, .int (nI i)), (10, .int (nI dy)), (9, .int (nI ba)), (8, .int (nI len)), (7, .int (nI n)), (6, .int (nI mc)), (5, .ref d0), (4, .ref v0), (3, .ref c0), (2, .ref t0), (1, .ref x0), (0, .ref b), (15, .int (nI 1)), (16, .int (nI e9)), (17, .int (nI r9)), (18, .int (nI (8 * r9 + e9)))] [] := by
  skip
  have hlcQ := hlc
  obtain ⟨C, YY, hX, hbl, hL, hst⟩ := hlcQ
  have hA : ∀ q, s.heap.size ≤ q → (fun q => s.heap.size ≤ q) q := fun _ h => h
  have hbA : ¬ (fun q => s.heap.size ≤ q) b := Nat.not_le.mpr hbl
  have hl6 := HSW.1
  have hm8 := HTW.1
  have hn6 := HRW.1
  refine g_iload (pc' := 844) C 12 dL_law_842 rfl rfl ?_
  refine g_if_eqN (pc' := 847) (tgt := 877) C (by first | assumption | omega) dL_law_844 (by decide) rfl (fun z => absurd z (by decide)) (fun _ => ?_)
  refine g_aload_n (pc' := 848) C 10 dL_law_847 rfl rfl rfl ?_
  refine g_iload (pc' := 850) C 14 dL_law_848 rfl rfl ?_
  refine g_iload (pc' := 852) C 13 dL_law_850 rfl rfl ?_
  obtain ⟨qx_2, fx_2, hqx_2⟩ := LX.recv HX
  refine g_fQ (pc' := 855) (wr := [(t0, .inl (κ.2 0, 8, .inl (nA (bN th)))), (c0, .inl (κ.2 0, 8, .inl (nA ck))), (v0, .inl (κ.2 0, 24, .inl (nA (fl8 iv)))), (d0, .inl (κ.2 0, 24, .inl (nA (fl8 dv))))]) (wc := wx) C YY hA ml_RL_70 lk_RL_70 (hp_knows l hst κ x0 r9 e9 HRW HSW HDW HTW HB HK HI (by omega) HX (by omega) (by omega) ht) (fun _ h => h) (List.Perm.refl _) qx_2 hqx_2 rfl rfl (Nat.le_of_ble_eq_true rfl) ⟨(by show 2 + 9 ≤ 2048; decide), (by show 219 + 3 + 40 * (2) ≤ 84000; decide)⟩ ⟨(by show _ ≤ 600104; omega), (by show _ ≤ 7301314; omega)⟩ rfl dL_law_852 rfl (fun r_852_2 w_852_2 h_852_2 => ?_)
  obtain ⟨HX_852_2, hr_852_2⟩ := h_852_2
  refine g_aload (pc' := 857) C 7 dL_law_855 rfl rfl ?_
  refine g_iload (pc' := 859) C 15 dL_law_857 rfl rfl ?_
  refine g_ialdN (pc' := 860) C 2 (f := (fl8 iv)) rfl (8 * r9 + e9) (by first | assumption | omega) (by decide) dL_law_859 rfl ?_
  refine g_val (y := nI (iv r9 e9)) (by rw [fl8_at (by omega)]) ?_
  refine g_bipush (pc' := 862) (v := nI 7) C dL_law_860 (by decide) rfl ?_
  refine g_icmp_leN (pc' := 865) (tgt := 869) C (by have h9 := (HK r9 e9).1; omega) (by first | assumption | omega) dL_law_862 (by decide) rfl (fun c_862_3 => ?_) (fun c_862_3 => ?_)
  · refine g_iconst (pc' := 870) (v := nI 0) C dL_law_869 (by decide) rfl ?_
    have er_852_2 : r_852_2 = nI 0 := by rw [hr_852_2, decide_eq_false (by omega)]; rfl
    subst er_852_2
    refine g_icmp_neN (pc' := 873) (tgt := 877) C (by first | assumption | omega) (by first | assumption | omega) dL_law_870 (by decide) rfl (fun z => absurd z (by decide)) (fun _ => ?_)
    refine g_iconst (pc' := 874) (v := nI 1) C dL_law_873 (by decide) rfl ?_
    refine g_goto (tgt := 878) C dL_law_874 (by decide) ?_
    refine g_istore (pc' := 880) (lv' := [(15, .int (nI 1)), (11, .int (nI i)), (10, .int (nI dy)), (9, .int (nI ba)), (8, .int (nI len)), (7, .int (nI n)), (6, .int (nI mc)), (5, .ref d0), (4, .ref v0), (3, .ref c0), (2, .ref t0), (1, .ref x0), (0, .ref b), (16, .int (nI e9)), (17, .int (nI r9)), (18, .int (nI (8 * r9 + e9)))]) C dL_law_878 (by decide) rfl rfl ?_
    refine g_lv (lv' := [(11, .int (nI i)), (10, .int (nI dy)), (9, .int (nI ba)), (8, .int (nI len)), (7, .int (nI n)), (6, .int (nI mc)), (5, .ref d0), (4, .ref v0), (3, .ref c0), (2, .ref t0), (1, .ref x0), (0, .ref b), (15, .int (nI 1)), (17, .int (nI r9))]) [1, 2, 3, 4, 5, 6, 7, 8, 9, 10, 11, 12, 0, 14] rfl ?_
    refine g_widen (k' := 100 + 200 * i + 40) (n' := 2000 + 2000 * i + 400) (by omega) (by omega) ?_
    exact law_880 hlc i hi HRW HSW HDW HTW HB HK HI (by omega) HC HX_852_2 KN hr9
  · refine g_iconst (pc' := 866) (v := nI 1) C dL_law_865 (by decide) rfl ?_
    refine g_goto (tgt := 870) C dL_law_866 (by decide) ?_
    have er_852_2 : r_852_2 = nI 1 := by rw [hr_852_2, decide_eq_true (by omega)]; rfl
    subst er_852_2
    refine g_icmp_neN (pc' := 873) (tgt := 877) C (by first | assumption | omega) (by first | assumption | omega) dL_law_870 (by decide) rfl (fun z => absurd z (by decide)) (fun _ => ?_)
    refine g_iconst (pc' := 874) (v := nI 1) C dL_law_873 (by decide) rfl ?_
    refine g_goto (tgt := 878) C dL_law_874 (by decide) ?_
    refine g_istore (pc' := 880) (lv' := [(15, .int (nI 1)), (11, .int (nI i)), (10, .int (nI dy)), (9, .int (nI ba)), (8, .int (nI len)), (7, .int (nI n)), (6, .int (nI mc)), (5, .ref d0), (4, .ref v0), (3, .ref c0), (2, .ref t0), (1, .ref x0), (0, .ref b), (16, .int (nI e9)), (17, .int (nI r9)), (18, .int (nI (8 * r9 + e9)))]) C dL_law_878 (by decide) rfl rfl ?_
    refine g_lv (lv' := [(11, .int (nI i)), (10, .int (nI dy)), (9, .int (nI ba)), (8, .int (nI len)), (7, .int (nI n)), (6, .int (nI mc)), (5, .ref d0), (4, .ref v0), (3, .ref c0), (2, .ref t0), (1, .ref x0), (0, .ref b), (15, .int (nI 1)), (17, .int (nI r9))]) [1, 2, 3, 4, 5, 6, 7, 8, 9, 10, 11, 12, 0, 14] rfl ?_
    refine g_widen (k' := 100 + 200 * i + 40) (n' := 2000 + 2000 * i + 400) (by omega) (by omega) ?_
    exact law_880 hlc i hi HRW HSW HDW HTW HB HK HI (by omega) HC HX_852_2 KN hr9
set_option maxHeartbeats 4000000 in
set_option maxRecDepth 100000 in
theorem law_681 (hlc : LC l p s m meth c κ b L xs) (i : Nat) (hi : i < 70) {wx : va_W} {n : Nat} {fk : Nat → Nat} {fs : Nat → Nat} {len : Nat} {fw : Nat → Nat} {dr : Nat → Option Nat} {mc : Nat} {th : Nat → Bool} {rc : Nat → Option Nat} {ck : Nat → Nat} {pm : Nat → Nat} {ep : Nat → Nat → Option Nat} {ba : Nat} {dy : Nat} {iv : Nat → Nat → Nat} {dv : Nat → Nat → Nat} (HRW : RW n fk fs) (HSW : SW len fw) (HDW : DW 0 dr) (HTW : TW mc th rc ck pm ep) (HB : ba ≤ 50) (HK : KW iv dv) (HI : IW iv) (hdy : dy ≤ 100 * i) (HC : CW mc iv) (HX : LX κ x0 n fk fs len fw 0 dr mc th rc ck pm ep ba dy iv dv wx) (KN : NXT p l e s m below meth c κ b x0 t0 c0 v0 d0 i) {w9 : Int32} {h9 e9 r9 : Nat} (hh : h9 < 16) (hr9 : r9 < 3) (he : 0 < mc → e9 < mc) : G p l e room_1 s m #[Value.ref b] below meth c κ 23 (JM (fun q => s.heap.size ≤ q) s) ([(t0, .inl (κ.2 0, 8, .inl (nA (bN th)))), (c0, .inl (κ.2 0, 8, .inl (nA ck))), (v0, .inl (κ.2 0, 24, .inl (nA (fl8 iv)))), (d0, .inl (κ.2 0, 24, .inl (nA (fl8 dv))))] ++ wx) (100 + 200 * i) (2000 + 2000 * i) (lw_Z below #[Value.ref b] s) 681 [(11, .int (nI i)), (10, .int (nI dy)), (9, .int (nI ba)), (8, .int (nI len)), (7, .int (nI n)), (6, .int (nI mc)), (5, .ref d0), (4, .ref v0), (3, .ref c0), (2, .ref t0), (1, .ref x0), (0, .ref b), (13, .int w9), (14, .int (nI h9)), (15, .int (nI 1)), (16, .int (nI e9)), (17, .int (nI r9)), (18, .int (nI (8 * r9 + e9)))] [] := by
  skip
  have hlcQ := hlc
  obtain ⟨C, YY, hX, hbl, hL, hst⟩ := hlcQ
  have hA : ∀ q, s.heap.size ≤ q → (fun q => s.heap.size ≤ q) q := fun _ h => h
  have hbA : ¬ (fun q => s.heap.size ≤ q) b := Nat.not_le.mpr hbl
  have hl6 := HSW.1
  have hm8 := HTW.1
  have hn6 := HRW.1
  refine g_iload (pc' := 683) C 5 dL_law_681 rfl rfl ?_
  refine g_if_leN (pc' := 686) (tgt := 880) C (by first | assumption | omega) dL_law_683 (by decide) rfl (fun c_683_1 => ?_) (fun c_683_1 => ?_)
  · refine g_lv (lv' := [(11, .int (nI i)), (10, .int (nI dy)), (9, .int (nI ba)), (8, .int (nI len)), (7, .int (nI n)), (6, .int (nI mc)), (5, .ref d0), (4, .ref v0), (3, .ref c0), (2, .ref t0), (1, .ref x0), (0, .ref b), (15, .int (nI 1)), (17, .int (nI r9))]) [0, 1, 2, 3, 4, 5, 6, 7, 8, 9, 10, 11, 14, 16] rfl ?_
    refine g_widen (k' := 100 + 200 * i + 40) (n' := 2000 + 2000 * i + 400) (by omega) (by omega) ?_
    exact law_880 hlc i hi HRW HSW HDW HTW HB HK HI (by omega) HC HX KN hr9
  · have hem := he c_683_1
    refine g_aload_n (pc' := 687) C 9 dL_law_686 rfl rfl rfl ?_
    refine g_iload (pc' := 689) C 15 dL_law_687 rfl rfl ?_
    refine g_ialdN (pc' := 690) C 0 (f := (bN th)) rfl e9 (by first | assumption | omega) (by decide) dL_law_689 rfl ?_
    refine g_iconst (pc' := 691) (v := nI 1) C dL_law_690 (by decide) rfl ?_
    refine g_icmp_neN (pc' := 694) (tgt := 880) C (Nat.lt_of_le_of_lt (bN_le _ _) (by decide)) (by first | assumption | omega) dL_law_691 (by decide) rfl (fun c_691_2 => ?_) (fun c_691_2 => ?_)
    · refine g_lv (lv' := [(11, .int (nI i)), (10, .int (nI dy)), (9, .int (nI ba)), (8, .int (nI len)), (7, .int (nI n)), (6, .int (nI mc)), (5, .ref d0), (4, .ref v0), (3, .ref c0), (2, .ref t0), (1, .ref x0), (0, .ref b), (15, .int (nI 1)), (17, .int (nI r9))]) [0, 1, 2, 3, 4, 5, 6, 7, 8, 9, 10, 11, 14, 16] rfl ?_
      refine g_widen (k' := 100 + 200 * i + 40) (n' := 2000 + 2000 * i + 400) (by omega) (by omega) ?_
      exact law_880 hlc i hi HRW HSW HDW HTW HB HK HI (by omega) HC HX KN hr9
    · have hb1 := c_691_2
      refine g_aload (pc' := 696) C 7 dL_law_694 rfl rfl ?_
      refine g_iload (pc' := 698) C 17 dL_law_696 rfl rfl ?_
      refine g_ialdN (pc' := 699) C 2 (f := (fl8 iv)) rfl (8 * r9 + e9) (by first | assumption | omega) (by decide) dL_law_698 rfl ?_
      refine g_val (y := nI (iv r9 e9)) (by rw [fl8_at (by omega)]) ?_
      refine g_if_neN (pc' := 702) (tgt := 739) C (by have h9 := (HK r9 e9).1; omega) dL_law_699 (by decide) rfl (fun c_699_3 => ?_) (fun c_699_3 => ?_)
      · refine g_aload (pc' := 741) C 6 dL_law_739 rfl rfl ?_
        refine g_iload (pc' := 743) C 17 dL_law_741 rfl rfl ?_
        refine g_ialdN (pc' := 744) C 3 (f := (fl8 dv)) rfl (8 * r9 + e9) (by first | assumption | omega) (by decide) dL_law_743 rfl ?_
        refine g_val (y := nI (dv r9 e9)) (by rw [fl8_at (by omega)]) ?_
        refine g_iload (pc' := 746) C 1 dL_law_744 rfl rfl ?_
        refine g_icmp_gtN (pc' := 749) (tgt := 842) C (by have h9 := (HK r9 e9).2; omega) (by first | assumption | omega) dL_law_746 (by decide) rfl (fun c_746_4 => ?_) (fun c_746_4 => ?_)
        · refine g_lv (lv' := [(11, .int (nI i)), (10, .int (nI dy)), (9, .int (nI ba)), (8, .int (nI len)), (7, .int (nI n)), (6, .int (nI mc)), (5, .ref d0), (4, .ref v0), (3, .ref c0), (2, .ref t0), (1, .ref x0), (0, .ref b), (15, .int (nI 1)), (16, .int (nI e9)), (17, .int (nI r9)), (18, .int (nI (8 * r9 + e9)))]) [0, 1, 2, 3, 4, 5, 6, 7, 8, 9, 10, 11, 14, 15, 16, 17] rfl ?_
          refine g_widen (k' := 100 + 200 * i + 20) (n' := 2000 + 2000 * i + 200) (by omega) (by omega) ?_
          exact law_842 hlc i hi HRW HSW HDW HTW HB HK HI (by omega) HC HX KN hr9 hem (bN_1 hb1)
        · refine g_iload (pc' := 751) C 12 dL_law_749 rfl rfl ?_
          refine g_bipush (pc' := 753) (v := nI 6) C dL_law_751 (by decide) rfl ?_
          refine g_ishr (pc' := 754) (v := w9 >>> ((nI 6) &&& 31)) C dL_law_753 rfl rfl ?_
          refine g_iconst (pc' := 755) (v := nI 4) C dL_law_754 (by decide) rfl ?_
          refine g_callPS (pc' := 758) C lk_RL_31 (kL_low l κ (w9 >>> ((nI 6) &&& 31)) 4 (by omega) (by omega)) [] rfl rfl (Nat.le_of_ble_eq_true rfl) ⟨(by show 0 + 9 ≤ 2048; decide), (by show 219 + 2 + 40 * (0) ≤ 84000; decide)⟩ ⟨(by show _ ≤ 600104; omega), (by show _ ≤ 7301314; omega)⟩ rfl dL_law_755 rfl (fun r h => ?_)
          obtain ⟨x_755_5, hx_755_5, rfl⟩ := h
          refine g_if_leN (pc' := 761) (tgt := 765) C (by first | assumption | omega) dL_law_758 (by decide) rfl (fun c_758_6 => ?_) (fun c_758_6 => ?_)
          · refine g_iconst (pc' := 766) (v := nI 0) C dL_law_765 (by decide) rfl ?_
            refine g_istore (pc' := 768) (lv' := [(19, .int (nI 0)), (11, .int (nI i)), (10, .int (nI dy)), (9, .int (nI ba)), (8, .int (nI len)), (7, .int (nI n)), (6, .int (nI mc)), (5, .ref d0), (4, .ref v0), (3, .ref c0), (2, .ref t0), (1, .ref x0), (0, .ref b), (13, .int w9), (14, .int (nI h9)), (15, .int (nI 1)), (16, .int (nI e9)), (17, .int (nI r9)), (18, .int (nI (8 * r9 + e9)))]) C dL_law_766 (by decide) rfl rfl ?_
            refine g_aload (pc' := 770) C 8 dL_law_768 rfl rfl ?_
            refine g_iload (pc' := 772) C 18 dL_law_770 rfl rfl ?_
            refine g_iload (pc' := 774) C 0 dL_law_772 rfl rfl ?_
            refine g_if_neN (pc' := 777) (tgt := 781) C (by first | assumption | omega) dL_law_774 (by decide) rfl (fun z => absurd z (by decide)) (fun _ => ?_)
            refine g_iconst (pc' := 778) (v := nI 1) C dL_law_777 (by decide) rfl ?_
            refine g_goto (tgt := 803) C dL_law_778 (by decide) ?_
            have hvv : 1 = rvI false (iv r9 e9) := rfl
            refine g_iastN (pc' := 804) (ws' := ([(t0, .inl (κ.2 0, 8, .inl (nA (bN th)))), (c0, .inl (κ.2 0, 8, .inl (nA ck))), (v0, .inl (κ.2 0, 24, .inl (nA (va_up (fl8 iv) (8 * r9 + e9) 1)))), (d0, .inl (κ.2 0, 24, .inl (nA (fl8 dv))))] ++ wx)) C 2 rfl (8 * r9 + e9) (by first | assumption | omega) (by decide) rfl dL_law_803 rfl ?_
            refine g_aload (pc' := 806) C 7 dL_law_804 rfl rfl ?_
            refine g_iload (pc' := 808) C 18 dL_law_806 rfl rfl ?_
            refine g_iload (pc' := 810) C 2 dL_law_808 rfl rfl ?_
            refine g_aload (pc' := 812) C 8 dL_law_810 rfl rfl ?_
            refine g_iload (pc' := 814) C 18 dL_law_812 rfl rfl ?_
            refine g_ialdN (pc' := 815) C 2 (f := (va_up (fl8 iv) (8 * r9 + e9) 1)) rfl (8 * r9 + e9) (by first | assumption | omega) (by decide) dL_law_814 rfl ?_
            refine g_val (y := nI 1) (by rw [va_up_self]) ?_
            refine g_iadd (pc' := 816) (v := nI (dy + 1)) C dL_law_815 (nI_add _ _) rfl ?_
            refine g_iastN (pc' := 817) (ws' := ([(t0, .inl (κ.2 0, 8, .inl (nA (bN th)))), (c0, .inl (κ.2 0, 8, .inl (nA ck))), (v0, .inl (κ.2 0, 24, .inl (nA (va_up (fl8 iv) (8 * r9 + e9) 1)))), (d0, .inl (κ.2 0, 24, .inl (nA (va_up (fl8 dv) (8 * r9 + e9) (dy + 1)))))] ++ wx)) C 3 rfl (8 * r9 + e9) (by first | assumption | omega) (by decide) rfl dL_law_816 rfl ?_
            refine g_aload_n (pc' := 818) C 11 dL_law_817 rfl rfl rfl ?_
            refine g_iload (pc' := 820) C 17 dL_law_818 rfl rfl ?_
            refine g_iload (pc' := 822) C 16 dL_law_820 rfl rfl ?_
            refine g_iload (pc' := 824) C 0 dL_law_822 rfl rfl ?_
            refine g_val (y := b2i false) (by rfl) ?_
            obtain ⟨qx_8, fx_8, hqx_8⟩ := LX.recv HX
            refine g_fQ (pc' := 827) (wr := [(t0, .inl (κ.2 0, 8, .inl (nA (bN th)))), (c0, .inl (κ.2 0, 8, .inl (nA ck))), (v0, .inl (κ.2 0, 24, .inl (nA (va_up (fl8 iv) (8 * r9 + e9) 1)))), (d0, .inl (κ.2 0, 24, .inl (nA (va_up (fl8 dv) (8 * r9 + e9) (dy + 1)))))]) (wc := wx) C YY hA ml_RL_66 lk_RL_66 (hp_review l hst κ x0 r9 e9 false HRW HSW HDW HTW HB HK HI (by omega) HX (by omega) (by omega) (bN_1 hb1) (by omega) (by omega)) (fun _ h => h) (List.Perm.refl _) qx_8 hqx_8 rfl rfl (Nat.le_of_ble_eq_true rfl) ⟨(by show 4 + 9 ≤ 2048; decide), (by show 219 + 6 + 40 * (4) ≤ 84000; decide)⟩ ⟨(by show _ ≤ 600104; omega), (by show _ ≤ 7301314; omega)⟩ rfl dL_law_824 rfl (fun r_824_8 w_824_8 h_824_8 => ?_)
            obtain ⟨HX_824_8, hr_824_8⟩ := h_824_8
            have er_824_8 : r_824_8 = nI 1 := by rw [hr_824_8, ← hvv]
            subst er_824_8
            refine g_aload (pc' := 829) C 8 dL_law_827 rfl rfl ?_
            refine g_iload (pc' := 831) C 18 dL_law_829 rfl rfl ?_
            refine g_ialdN (pc' := 832) C 2 (f := (va_up (fl8 iv) (8 * r9 + e9) 1)) rfl (8 * r9 + e9) (by first | assumption | omega) (by decide) dL_law_831 rfl ?_
            refine g_val (y := nI 1) (by rw [va_up_self]) ?_
            refine g_icmp_neN (pc' := 835) (tgt := 839) C (by have h9 := (HK r9 e9).1; omega) (by have h9 := (HK r9 e9).1; omega) dL_law_832 (by decide) rfl (fun z => absurd z (by decide)) (fun _ => ?_)
            refine g_iconst (pc' := 836) (v := nI 1) C dL_law_835 (by decide) rfl ?_
            refine g_goto (tgt := 840) C dL_law_836 (by decide) ?_
            refine g_w (ws' := ([(t0, .inl (κ.2 0, 8, .inl (nA (bN th)))), (c0, .inl (κ.2 0, 8, .inl (nA ck))), (v0, .inl (κ.2 0, 24, .inl (nA (fl8 (va_up iv r9 (va_up (iv r9) e9 (rvI false (iv r9 e9)))))))), (d0, .inl (κ.2 0, 24, .inl (nA (fl8 (va_up dv r9 (va_up (dv r9) e9 (dy + rvI false (iv r9 e9))))))))] ++ w_824_8)) (by rw [fl8_up (by omega), fl8_up (by omega), ← hvv]) ?_
            refine g_istore (pc' := 842) (lv' := [(15, .int (nI 1)), (19, .int (nI 0)), (11, .int (nI i)), (10, .int (nI dy)), (9, .int (nI ba)), (8, .int (nI len)), (7, .int (nI n)), (6, .int (nI mc)), (5, .ref d0), (4, .ref v0), (3, .ref c0), (2, .ref t0), (1, .ref x0), (0, .ref b), (13, .int w9), (14, .int (nI h9)), (16, .int (nI e9)), (17, .int (nI r9)), (18, .int (nI (8 * r9 + e9)))]) C dL_law_840 (by decide) rfl rfl ?_
            refine g_lv (lv' := [(11, .int (nI i)), (10, .int (nI dy)), (9, .int (nI ba)), (8, .int (nI len)), (7, .int (nI n)), (6, .int (nI mc)), (5, .ref d0), (4, .ref v0), (3, .ref c0), (2, .ref t0), (1, .ref x0), (0, .ref b), (15, .int (nI 1)), (16, .int (nI e9)), (17, .int (nI r9)), (18, .int (nI (8 * r9 + e9)))]) [2, 3, 4, 5, 6, 7, 8, 9, 10, 11, 12, 13, 0, 16, 17, 18] rfl ?_
            refine g_widen (k' := 100 + 200 * i + 20) (n' := 2000 + 2000 * i + 200) (by omega) (by omega) ?_
            exact law_842 hlc i hi HRW HSW HDW HTW HB (KW_put HK rvI_le (Nat.lt_of_le_of_lt (Nat.add_le_add_left rvI_le _) (by omega))) (IW_put HI _ _ (ip_rvI (HI _ _) (by omega))) (by omega) (CW_put HC hem) HX_824_8 KN hr9 hem (bN_1 hb1)
          · refine g_iconst (pc' := 762) (v := nI 1) C dL_law_761 (by decide) rfl ?_
            refine g_goto (tgt := 766) C dL_law_762 (by decide) ?_
            refine g_istore (pc' := 768) (lv' := [(19, .int (nI 1)), (11, .int (nI i)), (10, .int (nI dy)), (9, .int (nI ba)), (8, .int (nI len)), (7, .int (nI n)), (6, .int (nI mc)), (5, .ref d0), (4, .ref v0), (3, .ref c0), (2, .ref t0), (1, .ref x0), (0, .ref b), (13, .int w9), (14, .int (nI h9)), (15, .int (nI 1)), (16, .int (nI e9)), (17, .int (nI r9)), (18, .int (nI (8 * r9 + e9)))]) C dL_law_766 (by decide) rfl rfl ?_
            refine g_aload (pc' := 770) C 8 dL_law_768 rfl rfl ?_
            refine g_iload (pc' := 772) C 18 dL_law_770 rfl rfl ?_
            refine g_iload (pc' := 774) C 0 dL_law_772 rfl rfl ?_
            refine g_if_neN (pc' := 777) (tgt := 781) C (by first | assumption | omega) dL_law_774 (by decide) rfl (fun _ => ?_) (fun z => absurd z (by decide))
            refine g_aload (pc' := 783) C 8 dL_law_781 rfl rfl ?_
            refine g_iload (pc' := 785) C 18 dL_law_783 rfl rfl ?_
            refine g_ialdN (pc' := 786) C 2 (f := (fl8 iv)) rfl (8 * r9 + e9) (by first | assumption | omega) (by decide) dL_law_785 rfl ?_
            refine g_val (y := nI (iv r9 e9)) (by rw [fl8_at (by omega)]) ?_
            refine g_bipush (pc' := 788) (v := nI 64) C dL_law_786 (by decide) rfl ?_
            refine g_icmp_geN (pc' := 791) (tgt := 801) C (by have h9 := (HK r9 e9).1; omega) (by first | assumption | omega) dL_law_788 (by decide) rfl (fun c_788_11 => ?_) (fun c_788_11 => ?_)
            · refine g_bipush (pc' := 803) (v := nI 64) C dL_law_801 (by decide) rfl ?_
              have hvv : 64 = rvI true (iv r9 e9) := rvI_64 (by have h9 := (HK r9 e9).1; omega)
              refine g_iastN (pc' := 804) (ws' := ([(t0, .inl (κ.2 0, 8, .inl (nA (bN th)))), (c0, .inl (κ.2 0, 8, .inl (nA ck))), (v0, .inl (κ.2 0, 24, .inl (nA (va_up (fl8 iv) (8 * r9 + e9) 64)))), (d0, .inl (κ.2 0, 24, .inl (nA (fl8 dv))))] ++ wx)) C 2 rfl (8 * r9 + e9) (by first | assumption | omega) (by decide) rfl dL_law_803 rfl ?_
              refine g_aload (pc' := 806) C 7 dL_law_804 rfl rfl ?_
              refine g_iload (pc' := 808) C 18 dL_law_806 rfl rfl ?_
              refine g_iload (pc' := 810) C 2 dL_law_808 rfl rfl ?_
              refine g_aload (pc' := 812) C 8 dL_law_810 rfl rfl ?_
              refine g_iload (pc' := 814) C 18 dL_law_812 rfl rfl ?_
              refine g_ialdN (pc' := 815) C 2 (f := (va_up (fl8 iv) (8 * r9 + e9) 64)) rfl (8 * r9 + e9) (by first | assumption | omega) (by decide) dL_law_814 rfl ?_
              refine g_val (y := nI 64) (by rw [va_up_self]) ?_
              refine g_iadd (pc' := 816) (v := nI (dy + 64)) C dL_law_815 (nI_add _ _) rfl ?_
              refine g_iastN (pc' := 817) (ws' := ([(t0, .inl (κ.2 0, 8, .inl (nA (bN th)))), (c0, .inl (κ.2 0, 8, .inl (nA ck))), (v0, .inl (κ.2 0, 24, .inl (nA (va_up (fl8 iv) (8 * r9 + e9) 64)))), (d0, .inl (κ.2 0, 24, .inl (nA (va_up (fl8 dv) (8 * r9 + e9) (dy + 64)))))] ++ wx)) C 3 rfl (8 * r9 + e9) (by first | assumption | omega) (by decide) rfl dL_law_816 rfl ?_
              refine g_aload_n (pc' := 818) C 11 dL_law_817 rfl rfl rfl ?_
              refine g_iload (pc' := 820) C 17 dL_law_818 rfl rfl ?_
              refine g_iload (pc' := 822) C 16 dL_law_820 rfl rfl ?_
              refine g_iload (pc' := 824) C 0 dL_law_822 rfl rfl ?_
              refine g_val (y := b2i true) (by rfl) ?_
              obtain ⟨qx_12, fx_12, hqx_12⟩ := LX.recv HX
              refine g_fQ (pc' := 827) (wr := [(t0, .inl (κ.2 0, 8, .inl (nA (bN th)))), (c0, .inl (κ.2 0, 8, .inl (nA ck))), (v0, .inl (κ.2 0, 24, .inl (nA (va_up (fl8 iv) (8 * r9 + e9) 64)))), (d0, .inl (κ.2 0, 24, .inl (nA (va_up (fl8 dv) (8 * r9 + e9) (dy + 64)))))]) (wc := wx) C YY hA ml_RL_66 lk_RL_66 (hp_review l hst κ x0 r9 e9 true HRW HSW HDW HTW HB HK HI (by omega) HX (by omega) (by omega) (bN_1 hb1) (by omega) (by omega)) (fun _ h => h) (List.Perm.refl _) qx_12 hqx_12 rfl rfl (Nat.le_of_ble_eq_true rfl) ⟨(by show 4 + 9 ≤ 2048; decide), (by show 219 + 6 + 40 * (4) ≤ 84000; decide)⟩ ⟨(by show _ ≤ 600104; omega), (by show _ ≤ 7301314; omega)⟩ rfl dL_law_824 rfl (fun r_824_12 w_824_12 h_824_12 => ?_)
              obtain ⟨HX_824_12, hr_824_12⟩ := h_824_12
              have er_824_12 : r_824_12 = nI 64 := by rw [hr_824_12, ← hvv]
              subst er_824_12
              refine g_aload (pc' := 829) C 8 dL_law_827 rfl rfl ?_
              refine g_iload (pc' := 831) C 18 dL_law_829 rfl rfl ?_
              refine g_ialdN (pc' := 832) C 2 (f := (va_up (fl8 iv) (8 * r9 + e9) 64)) rfl (8 * r9 + e9) (by first | assumption | omega) (by decide) dL_law_831 rfl ?_
              refine g_val (y := nI 64) (by rw [va_up_self]) ?_
              refine g_icmp_neN (pc' := 835) (tgt := 839) C (by have h9 := (HK r9 e9).1; omega) (by have h9 := (HK r9 e9).1; omega) dL_law_832 (by decide) rfl (fun z => absurd z (by decide)) (fun _ => ?_)
              refine g_iconst (pc' := 836) (v := nI 1) C dL_law_835 (by decide) rfl ?_
              refine g_goto (tgt := 840) C dL_law_836 (by decide) ?_
              refine g_w (ws' := ([(t0, .inl (κ.2 0, 8, .inl (nA (bN th)))), (c0, .inl (κ.2 0, 8, .inl (nA ck))), (v0, .inl (κ.2 0, 24, .inl (nA (fl8 (va_up iv r9 (va_up (iv r9) e9 (rvI true (iv r9 e9)))))))), (d0, .inl (κ.2 0, 24, .inl (nA (fl8 (va_up dv r9 (va_up (dv r9) e9 (dy + rvI true (iv r9 e9))))))))] ++ w_824_12)) (by rw [fl8_up (by omega), fl8_up (by omega), ← hvv]) ?_
              refine g_istore (pc' := 842) (lv' := [(15, .int (nI 1)), (19, .int (nI 1)), (11, .int (nI i)), (10, .int (nI dy)), (9, .int (nI ba)), (8, .int (nI len)), (7, .int (nI n)), (6, .int (nI mc)), (5, .ref d0), (4, .ref v0), (3, .ref c0), (2, .ref t0), (1, .ref x0), (0, .ref b), (13, .int w9), (14, .int (nI h9)), (16, .int (nI e9)), (17, .int (nI r9)), (18, .int (nI (8 * r9 + e9)))]) C dL_law_840 (by decide) rfl rfl ?_
              refine g_lv (lv' := [(11, .int (nI i)), (10, .int (nI dy)), (9, .int (nI ba)), (8, .int (nI len)), (7, .int (nI n)), (6, .int (nI mc)), (5, .ref d0), (4, .ref v0), (3, .ref c0), (2, .ref t0), (1, .ref x0), (0, .ref b), (15, .int (nI 1)), (16, .int (nI e9)), (17, .int (nI r9)), (18, .int (nI (8 * r9 + e9)))]) [2, 3, 4, 5, 6, 7, 8, 9, 10, 11, 12, 13, 0, 16, 17, 18] rfl ?_
              refine g_widen (k' := 100 + 200 * i + 20) (n' := 2000 + 2000 * i + 200) (by omega) (by omega) ?_
              exact law_842 hlc i hi HRW HSW HDW HTW HB (KW_put HK rvI_le (Nat.lt_of_le_of_lt (Nat.add_le_add_left rvI_le _) (by omega))) (IW_put HI _ _ (ip_rvI (HI _ _) (by omega))) (by omega) (CW_put HC hem) HX_824_12 KN hr9 hem (bN_1 hb1)
            · refine g_iconst (pc' := 792) (v := nI 2) C dL_law_791 (by decide) rfl ?_
              refine g_aload (pc' := 794) C 8 dL_law_792 rfl rfl ?_
              refine g_iload (pc' := 796) C 18 dL_law_794 rfl rfl ?_
              refine g_ialdN (pc' := 797) C 2 (f := (fl8 iv)) rfl (8 * r9 + e9) (by first | assumption | omega) (by decide) dL_law_796 rfl ?_
              refine g_val (y := nI (iv r9 e9)) (by rw [fl8_at (by omega)]) ?_
              refine g_imul (pc' := 798) (v := nI (2 * (iv r9 e9))) C dL_law_797 (pk_mul _ _) rfl ?_
              refine g_goto (tgt := 803) C dL_law_798 (by decide) ?_
              have hvv : 2 * (iv r9 e9) = rvI true (iv r9 e9) := rvI_2 (by omega) (HI _ _)
              refine g_iastN (pc' := 804) (ws' := ([(t0, .inl (κ.2 0, 8, .inl (nA (bN th)))), (c0, .inl (κ.2 0, 8, .inl (nA ck))), (v0, .inl (κ.2 0, 24, .inl (nA (va_up (fl8 iv) (8 * r9 + e9) (2 * (iv r9 e9)))))), (d0, .inl (κ.2 0, 24, .inl (nA (fl8 dv))))] ++ wx)) C 2 rfl (8 * r9 + e9) (by first | assumption | omega) (by decide) rfl dL_law_803 rfl ?_
              refine g_aload (pc' := 806) C 7 dL_law_804 rfl rfl ?_
              refine g_iload (pc' := 808) C 18 dL_law_806 rfl rfl ?_
              refine g_iload (pc' := 810) C 2 dL_law_808 rfl rfl ?_
              refine g_aload (pc' := 812) C 8 dL_law_810 rfl rfl ?_
              refine g_iload (pc' := 814) C 18 dL_law_812 rfl rfl ?_
              refine g_ialdN (pc' := 815) C 2 (f := (va_up (fl8 iv) (8 * r9 + e9) (2 * (iv r9 e9)))) rfl (8 * r9 + e9) (by first | assumption | omega) (by decide) dL_law_814 rfl ?_
              refine g_val (y := nI (2 * (iv r9 e9))) (by rw [va_up_self]) ?_
              refine g_iadd (pc' := 816) (v := nI (dy + (2 * (iv r9 e9)))) C dL_law_815 (nI_add _ _) rfl ?_
              refine g_iastN (pc' := 817) (ws' := ([(t0, .inl (κ.2 0, 8, .inl (nA (bN th)))), (c0, .inl (κ.2 0, 8, .inl (nA ck))), (v0, .inl (κ.2 0, 24, .inl (nA (va_up (fl8 iv) (8 * r9 + e9) (2 * (iv r9 e9)))))), (d0, .inl (κ.2 0, 24, .inl (nA (va_up (fl8 dv) (8 * r9 + e9) (dy + (2 * (iv r9 e9)))))))] ++ wx)) C 3 rfl (8 * r9 + e9) (by first | assumption | omega) (by decide) rfl dL_law_816 rfl ?_
              refine g_aload_n (pc' := 818) C 11 dL_law_817 rfl rfl rfl ?_
              refine g_iload (pc' := 820) C 17 dL_law_818 rfl rfl ?_
              refine g_iload (pc' := 822) C 16 dL_law_820 rfl rfl ?_
              refine g_iload (pc' := 824) C 0 dL_law_822 rfl rfl ?_
              refine g_val (y := b2i true) (by rfl) ?_
              obtain ⟨qx_14, fx_14, hqx_14⟩ := LX.recv HX
              refine g_fQ (pc' := 827) (wr := [(t0, .inl (κ.2 0, 8, .inl (nA (bN th)))), (c0, .inl (κ.2 0, 8, .inl (nA ck))), (v0, .inl (κ.2 0, 24, .inl (nA (va_up (fl8 iv) (8 * r9 + e9) (2 * (iv r9 e9)))))), (d0, .inl (κ.2 0, 24, .inl (nA (va_up (fl8 dv) (8 * r9 + e9) (dy + (2 * (iv r9 e9)))))))]) (wc := wx) C YY hA ml_RL_66 lk_RL_66 (hp_review l hst κ x0 r9 e9 true HRW HSW HDW HTW HB HK HI (by omega) HX (by omega) (by omega) (bN_1 hb1) (by omega) (by omega)) (fun _ h => h) (List.Perm.refl _) qx_14 hqx_14 rfl rfl (Nat.le_of_ble_eq_true rfl) ⟨(by show 4 + 9 ≤ 2048; decide), (by show 219 + 6 + 40 * (4) ≤ 84000; decide)⟩ ⟨(by show _ ≤ 600104; omega), (by show _ ≤ 7301314; omega)⟩ rfl dL_law_824 rfl (fun r_824_14 w_824_14 h_824_14 => ?_)
              obtain ⟨HX_824_14, hr_824_14⟩ := h_824_14
              have er_824_14 : r_824_14 = nI (2 * (iv r9 e9)) := by rw [hr_824_14, ← hvv]
              subst er_824_14
              refine g_aload (pc' := 829) C 8 dL_law_827 rfl rfl ?_
              refine g_iload (pc' := 831) C 18 dL_law_829 rfl rfl ?_
              refine g_ialdN (pc' := 832) C 2 (f := (va_up (fl8 iv) (8 * r9 + e9) (2 * (iv r9 e9)))) rfl (8 * r9 + e9) (by first | assumption | omega) (by decide) dL_law_831 rfl ?_
              refine g_val (y := nI (2 * (iv r9 e9))) (by rw [va_up_self]) ?_
              refine g_icmp_neN (pc' := 835) (tgt := 839) C (by have h9 := (HK r9 e9).1; omega) (by have h9 := (HK r9 e9).1; omega) dL_law_832 (by decide) rfl (fun c_832_15 => absurd c_832_15 (by exact fun q => q rfl)) (fun c_832_15 => ?_)
              refine g_iconst (pc' := 836) (v := nI 1) C dL_law_835 (by decide) rfl ?_
              refine g_goto (tgt := 840) C dL_law_836 (by decide) ?_
              refine g_w (ws' := ([(t0, .inl (κ.2 0, 8, .inl (nA (bN th)))), (c0, .inl (κ.2 0, 8, .inl (nA ck))), (v0, .inl (κ.2 0, 24, .inl (nA (fl8 (va_up iv r9 (va_up (iv r9) e9 (rvI true (iv r9 e9)))))))), (d0, .inl (κ.2 0, 24, .inl (nA (fl8 (va_up dv r9 (va_up (dv r9) e9 (dy + rvI true (iv r9 e9))))))))] ++ w_824_14)) (by rw [fl8_up (by omega), fl8_up (by omega), ← hvv]) ?_
              refine g_istore (pc' := 842) (lv' := [(15, .int (nI 1)), (19, .int (nI 1)), (11, .int (nI i)), (10, .int (nI dy)), (9, .int (nI ba)), (8, .int (nI len)), (7, .int (nI n)), (6, .int (nI mc)), (5, .ref d0), (4, .ref v0), (3, .ref c0), (2, .ref t0), (1, .ref x0), (0, .ref b), (13, .int w9), (14, .int (nI h9)), (16, .int (nI e9)), (17, .int (nI r9)), (18, .int (nI (8 * r9 + e9)))]) C dL_law_840 (by decide) rfl rfl ?_
              refine g_lv (lv' := [(11, .int (nI i)), (10, .int (nI dy)), (9, .int (nI ba)), (8, .int (nI len)), (7, .int (nI n)), (6, .int (nI mc)), (5, .ref d0), (4, .ref v0), (3, .ref c0), (2, .ref t0), (1, .ref x0), (0, .ref b), (15, .int (nI 1)), (16, .int (nI e9)), (17, .int (nI r9)), (18, .int (nI (8 * r9 + e9)))]) [2, 3, 4, 5, 6, 7, 8, 9, 10, 11, 12, 13, 0, 16, 17, 18] rfl ?_
              refine g_widen (k' := 100 + 200 * i + 20) (n' := 2000 + 2000 * i + 200) (by omega) (by omega) ?_
              exact law_842 hlc i hi HRW HSW HDW HTW HB (KW_put HK rvI_le (Nat.lt_of_le_of_lt (Nat.add_le_add_left rvI_le _) (by omega))) (IW_put HI _ _ (ip_rvI (HI _ _) (by omega))) (by omega) (CW_put HC hem) HX_824_14 KN hr9 hem (bN_1 hb1)
      · refine g_aload (pc' := 704) C 7 dL_law_702 rfl rfl ?_
        refine g_iload (pc' := 706) C 17 dL_law_704 rfl rfl ?_
        refine g_iconst (pc' := 707) (v := nI 1) C dL_law_706 (by decide) rfl ?_
        refine g_iastN (pc' := 708) (ws' := ([(t0, .inl (κ.2 0, 8, .inl (nA (bN th)))), (c0, .inl (κ.2 0, 8, .inl (nA ck))), (v0, .inl (κ.2 0, 24, .inl (nA (va_up (fl8 iv) (8 * r9 + e9) 1)))), (d0, .inl (κ.2 0, 24, .inl (nA (fl8 dv))))] ++ wx)) C 2 rfl (8 * r9 + e9) (by first | assumption | omega) (by decide) rfl dL_law_707 rfl ?_
        refine g_aload (pc' := 710) C 6 dL_law_708 rfl rfl ?_
        refine g_iload (pc' := 712) C 17 dL_law_710 rfl rfl ?_
        refine g_iload (pc' := 714) C 1 dL_law_712 rfl rfl ?_
        refine g_iconst (pc' := 715) (v := nI 1) C dL_law_714 (by decide) rfl ?_
        refine g_iadd (pc' := 716) (v := nI (dy + 1)) C dL_law_715 (nI_add _ _) rfl ?_
        refine g_iastN (pc' := 717) (ws' := ([(t0, .inl (κ.2 0, 8, .inl (nA (bN th)))), (c0, .inl (κ.2 0, 8, .inl (nA ck))), (v0, .inl (κ.2 0, 24, .inl (nA (va_up (fl8 iv) (8 * r9 + e9) 1)))), (d0, .inl (κ.2 0, 24, .inl (nA (va_up (fl8 dv) (8 * r9 + e9) (dy + 1)))))] ++ wx)) C 3 rfl (8 * r9 + e9) (by first | assumption | omega) (by decide) rfl dL_law_716 rfl ?_
        refine g_aload_n (pc' := 718) C 10 dL_law_717 rfl rfl rfl ?_
        refine g_iload (pc' := 720) C 16 dL_law_718 rfl rfl ?_
        refine g_iload (pc' := 722) C 15 dL_law_720 rfl rfl ?_
        obtain ⟨qx_16, fx_16, hqx_16⟩ := LX.recv HX
        refine g_fQ (pc' := 725) (wr := [(t0, .inl (κ.2 0, 8, .inl (nA (bN th)))), (c0, .inl (κ.2 0, 8, .inl (nA ck))), (v0, .inl (κ.2 0, 24, .inl (nA (va_up (fl8 iv) (8 * r9 + e9) 1)))), (d0, .inl (κ.2 0, 24, .inl (nA (va_up (fl8 dv) (8 * r9 + e9) (dy + 1)))))]) (wc := wx) C YY hA ml_RL_63 lk_RL_63 (hp_learn l hst κ x0 r9 e9 HRW HSW HDW HTW HB HK HI (by omega) HX (by omega) (by omega) (bN_1 hb1) (by omega)) (fun _ h => h) (List.Perm.refl _) qx_16 hqx_16 rfl rfl (Nat.le_of_ble_eq_true rfl) ⟨(by show 4 + 9 ≤ 2048; decide), (by show 219 + 3 + 40 * (4) ≤ 84000; decide)⟩ ⟨(by show _ ≤ 600104; omega), (by show _ ≤ 7301314; omega)⟩ rfl dL_law_722 rfl (fun r_722_16 w_722_16 h_722_16 => ?_)
        obtain ⟨HX_722_16, hr_722_16⟩ := h_722_16
        obtain ⟨z9, ez9, hz1, hz8⟩ : ∃ z : Nat, r_722_16 = nI z ∧ 1 ≤ z ∧ z ≤ 8 := ⟨_, hr_722_16, ctC_pos (e := e9) (by rw [va_up_self]; decide) (by omega), ctC_le _ _⟩
        have er_722_16 : r_722_16 = nI z9 := ez9
        subst er_722_16
        refine g_w (ws' := ([(t0, .inl (κ.2 0, 8, .inl (nA (bN th)))), (c0, .inl (κ.2 0, 8, .inl (nA ck))), (v0, .inl (κ.2 0, 24, .inl (nA (fl8 (va_up iv r9 (va_up (iv r9) e9 1)))))), (d0, .inl (κ.2 0, 24, .inl (nA (fl8 (va_up dv r9 (va_up (dv r9) e9 (dy + 1)))))))] ++ w_722_16)) (by rw [fl8_up (by omega), fl8_up (by omega)]) ?_
        refine g_iconst (pc' := 726) (v := nI 1) C dL_law_725 (by decide) rfl ?_
        refine g_icmp_ltN (pc' := 729) (tgt := 733) C (by first | assumption | omega) (by first | assumption | omega) dL_law_726 (by decide) rfl (fun c_726_17 => absurd c_726_17 (by omega)) (fun c_726_17 => ?_)
        refine g_iconst (pc' := 730) (v := nI 1) C dL_law_729 (by decide) rfl ?_
        refine g_goto (tgt := 734) C dL_law_730 (by decide) ?_
        refine g_istore (pc' := 736) (lv' := [(15, .int (nI 1)), (11, .int (nI i)), (10, .int (nI dy)), (9, .int (nI ba)), (8, .int (nI len)), (7, .int (nI n)), (6, .int (nI mc)), (5, .ref d0), (4, .ref v0), (3, .ref c0), (2, .ref t0), (1, .ref x0), (0, .ref b), (13, .int w9), (14, .int (nI h9)), (16, .int (nI e9)), (17, .int (nI r9)), (18, .int (nI (8 * r9 + e9)))]) C dL_law_734 (by decide) rfl rfl ?_
        refine g_goto (tgt := 842) C dL_law_736 (by decide) ?_
        refine g_lv (lv' := [(11, .int (nI i)), (10, .int (nI dy)), (9, .int (nI ba)), (8, .int (nI len)), (7, .int (nI n)), (6, .int (nI mc)), (5, .ref d0), (4, .ref v0), (3, .ref c0), (2, .ref t0), (1, .ref x0), (0, .ref b), (15, .int (nI 1)), (16, .int (nI e9)), (17, .int (nI r9)), (18, .int (nI (8 * r9 + e9)))]) [1, 2, 3, 4, 5, 6, 7, 8, 9, 10, 11, 12, 0, 15, 16, 17] rfl ?_
        refine g_widen (k' := 100 + 200 * i + 20) (n' := 2000 + 2000 * i + 200) (by omega) (by omega) ?_
        exact law_842 hlc i hi HRW HSW HDW HTW HB (KW_put HK (by decide) (by omega)) (IW_put HI _ _ ip_1) (by omega) (CW_put HC hem) HX_722_16 KN hr9 hem (bN_1 hb1)
end LAW
