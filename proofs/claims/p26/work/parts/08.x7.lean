set_option maxHeartbeats 4000000 in
set_option maxRecDepth 100000 in
theorem kJ6_numberOfTrailingZeros_0f7a4 (l : Launch) (κ : KK) (x : Nat) (h0 : 0 < x) (h1 : x < 64) : CP l yJ6_numberOfTrailingZeros_0f7a4 cJ6_numberOfTrailingZeros_0f7a4 2 (some .int) 0 κ [.int (nI x)] [] (fun vr_ => vr_ = nI (tz6 x)) := by
  refine cp_of RJ6 rfl (by decide) (Nat.le_of_ble_eq_true rfl) ?_
  intro p e s m below meth c C
  refine g_lv (lv' := [(0, .int (nI x))]) [0] rfl ?_
  refine g_iload_n (pc' := 1) C 0 dJ6_numberOfTrailingZeros_0f7a4_0 rfl rfl rfl ?_
  refine g_iconst (pc' := 2) (v := (-1)) C dJ6_numberOfTrailingZeros_0f7a4_1 (by decide) rfl ?_
  refine g_ixor (pc' := 3) (v := (nI x) ^^^ (-1)) C dJ6_numberOfTrailingZeros_0f7a4_2 rfl rfl ?_
  refine g_iload_n (pc' := 4) C 0 dJ6_numberOfTrailingZeros_0f7a4_3 rfl rfl rfl ?_
  refine g_iconst (pc' := 5) (v := nI 1) C dJ6_numberOfTrailingZeros_0f7a4_4 (by decide) rfl ?_
  refine g_isub (pc' := 6) (v := nI (x - 1)) C dJ6_numberOfTrailingZeros_0f7a4_5 (pk_sub (by first | assumption | omega)) rfl ?_
  refine g_iand (pc' := 7) (v := nI (tzm x)) C dJ6_numberOfTrailingZeros_0f7a4_6 (tzm_ok x h0 h1) rfl ?_
  refine g_istore_n (pc' := 8) (lv' := [(0, .int (nI (tzm x)))]) C dJ6_numberOfTrailingZeros_0f7a4_7 rfl (by decide) rfl rfl ?_
  have hz := tzm_all x h0 h1
  rcases hz with ⟨e1, e2⟩ | ⟨e1, e2⟩ | ⟨e1, e2⟩ | ⟨e1, e2⟩ | ⟨e1, e2⟩ | ⟨e1, e2⟩
  · rw [e1]
    refine g_iload_n (pc' := 9) C 0 dJ6_numberOfTrailingZeros_0f7a4_8 rfl rfl rfl ?_
    refine g_if_gtN (pc' := 12) (tgt := 17) C (by first | assumption | omega) dJ6_numberOfTrailingZeros_0f7a4_9 (by decide) rfl (fun z => absurd z (by decide)) (fun _ => ?_)
    refine g_iload_n (pc' := 13) C 0 dJ6_numberOfTrailingZeros_0f7a4_12 rfl rfl rfl ?_
    refine g_bipush (pc' := 15) (v := nI 32) C dJ6_numberOfTrailingZeros_0f7a4_13 (by decide) rfl ?_
    refine g_iand (pc' := 16) (v := nI 0) C dJ6_numberOfTrailingZeros_0f7a4_15 (by decide) rfl ?_
    exact g_retP C rfl rfl (show nI 0 = nI (tz6 x) by rw [e2]) dJ6_numberOfTrailingZeros_0f7a4_16
  · rw [e1]
    refine g_iload_n (pc' := 9) C 0 dJ6_numberOfTrailingZeros_0f7a4_8 rfl rfl rfl ?_
    refine g_if_gtN (pc' := 12) (tgt := 17) C (by first | assumption | omega) dJ6_numberOfTrailingZeros_0f7a4_9 (by decide) rfl (fun _ => ?_) (fun z => absurd z (by decide))
    refine g_iconst (pc' := 18) (v := nI 1) C dJ6_numberOfTrailingZeros_0f7a4_17 (by decide) rfl ?_
    refine g_istore_n (pc' := 19) (lv' := [(1, .int (nI 1)), (0, .int (nI 1))]) C dJ6_numberOfTrailingZeros_0f7a4_18 rfl (by decide) rfl rfl ?_
    refine g_iload_n (pc' := 20) C 1 dJ6_numberOfTrailingZeros_0f7a4_19 rfl rfl rfl ?_
    refine g_ldcw (pc' := 23) C wd_const_RJ6_264 dJ6_numberOfTrailingZeros_0f7a4_20 rfl ?_
    refine g_val (y := nI 65536) (by decide) ?_
    refine g_icmp_leN (pc' := 26) (tgt := 34) C (by first | assumption | omega) (by first | assumption | omega) dJ6_numberOfTrailingZeros_0f7a4_23 (by decide) rfl (fun _ => ?_) (fun z => absurd z (by decide))
    refine g_iload_n (pc' := 35) C 1 dJ6_numberOfTrailingZeros_0f7a4_34 rfl rfl rfl ?_
    refine g_sipush (pc' := 38) (v := nI 256) C dJ6_numberOfTrailingZeros_0f7a4_35 (by decide) rfl ?_
    refine g_icmp_leN (pc' := 41) (tgt := 49) C (by first | assumption | omega) (by first | assumption | omega) dJ6_numberOfTrailingZeros_0f7a4_38 (by decide) rfl (fun _ => ?_) (fun z => absurd z (by decide))
    refine g_iload_n (pc' := 50) C 1 dJ6_numberOfTrailingZeros_0f7a4_49 rfl rfl rfl ?_
    refine g_bipush (pc' := 52) (v := nI 16) C dJ6_numberOfTrailingZeros_0f7a4_50 (by decide) rfl ?_
    refine g_icmp_leN (pc' := 55) (tgt := 62) C (by first | assumption | omega) (by first | assumption | omega) dJ6_numberOfTrailingZeros_0f7a4_52 (by decide) rfl (fun _ => ?_) (fun z => absurd z (by decide))
    refine g_iload_n (pc' := 63) C 1 dJ6_numberOfTrailingZeros_0f7a4_62 rfl rfl rfl ?_
    refine g_iconst (pc' := 64) (v := nI 4) C dJ6_numberOfTrailingZeros_0f7a4_63 (by decide) rfl ?_
    refine g_icmp_leN (pc' := 67) (tgt := 74) C (by first | assumption | omega) (by first | assumption | omega) dJ6_numberOfTrailingZeros_0f7a4_64 (by decide) rfl (fun _ => ?_) (fun z => absurd z (by decide))
    refine g_iload_n (pc' := 75) C 0 dJ6_numberOfTrailingZeros_0f7a4_74 rfl rfl rfl ?_
    refine g_iload_n (pc' := 76) C 1 dJ6_numberOfTrailingZeros_0f7a4_75 rfl rfl rfl ?_
    refine g_iconst (pc' := 77) (v := nI 1) C dJ6_numberOfTrailingZeros_0f7a4_76 (by decide) rfl ?_
    refine g_iushr (pc' := 78) (v := nI 0) C dJ6_numberOfTrailingZeros_0f7a4_77 (by decide) rfl ?_
    refine g_iadd (pc' := 79) (v := nI 1) C dJ6_numberOfTrailingZeros_0f7a4_78 (by decide) rfl ?_
    exact g_retP C rfl rfl (show nI 1 = nI (tz6 x) by rw [e2]) dJ6_numberOfTrailingZeros_0f7a4_79
  · rw [e1]
    refine g_iload_n (pc' := 9) C 0 dJ6_numberOfTrailingZeros_0f7a4_8 rfl rfl rfl ?_
    refine g_if_gtN (pc' := 12) (tgt := 17) C (by first | assumption | omega) dJ6_numberOfTrailingZeros_0f7a4_9 (by decide) rfl (fun _ => ?_) (fun z => absurd z (by decide))
    refine g_iconst (pc' := 18) (v := nI 1) C dJ6_numberOfTrailingZeros_0f7a4_17 (by decide) rfl ?_
    refine g_istore_n (pc' := 19) (lv' := [(1, .int (nI 1)), (0, .int (nI 3))]) C dJ6_numberOfTrailingZeros_0f7a4_18 rfl (by decide) rfl rfl ?_
    refine g_iload_n (pc' := 20) C 1 dJ6_numberOfTrailingZeros_0f7a4_19 rfl rfl rfl ?_
    refine g_ldcw (pc' := 23) C wd_const_RJ6_264 dJ6_numberOfTrailingZeros_0f7a4_20 rfl ?_
    refine g_val (y := nI 65536) (by decide) ?_
    refine g_icmp_leN (pc' := 26) (tgt := 34) C (by first | assumption | omega) (by first | assumption | omega) dJ6_numberOfTrailingZeros_0f7a4_23 (by decide) rfl (fun _ => ?_) (fun z => absurd z (by decide))
    refine g_iload_n (pc' := 35) C 1 dJ6_numberOfTrailingZeros_0f7a4_34 rfl rfl rfl ?_
    refine g_sipush (pc' := 38) (v := nI 256) C dJ6_numberOfTrailingZeros_0f7a4_35 (by decide) rfl ?_
    refine g_icmp_leN (pc' := 41) (tgt := 49) C (by first | assumption | omega) (by first | assumption | omega) dJ6_numberOfTrailingZeros_0f7a4_38 (by decide) rfl (fun _ => ?_) (fun z => absurd z (by decide))
    refine g_iload_n (pc' := 50) C 1 dJ6_numberOfTrailingZeros_0f7a4_49 rfl rfl rfl ?_
    refine g_bipush (pc' := 52) (v := nI 16) C dJ6_numberOfTrailingZeros_0f7a4_50 (by decide) rfl ?_
    refine g_icmp_leN (pc' := 55) (tgt := 62) C (by first | assumption | omega) (by first | assumption | omega) dJ6_numberOfTrailingZeros_0f7a4_52 (by decide) rfl (fun _ => ?_) (fun z => absurd z (by decide))
    refine g_iload_n (pc' := 63) C 1 dJ6_numberOfTrailingZeros_0f7a4_62 rfl rfl rfl ?_
    refine g_iconst (pc' := 64) (v := nI 4) C dJ6_numberOfTrailingZeros_0f7a4_63 (by decide) rfl ?_
    refine g_icmp_leN (pc' := 67) (tgt := 74) C (by first | assumption | omega) (by first | assumption | omega) dJ6_numberOfTrailingZeros_0f7a4_64 (by decide) rfl (fun _ => ?_) (fun z => absurd z (by decide))
    refine g_iload_n (pc' := 75) C 0 dJ6_numberOfTrailingZeros_0f7a4_74 rfl rfl rfl ?_
    refine g_iload_n (pc' := 76) C 1 dJ6_numberOfTrailingZeros_0f7a4_75 rfl rfl rfl ?_
    refine g_iconst (pc' := 77) (v := nI 1) C dJ6_numberOfTrailingZeros_0f7a4_76 (by decide) rfl ?_
    refine g_iushr (pc' := 78) (v := nI 1) C dJ6_numberOfTrailingZeros_0f7a4_77 (by decide) rfl ?_
    refine g_iadd (pc' := 79) (v := nI 2) C dJ6_numberOfTrailingZeros_0f7a4_78 (by decide) rfl ?_
    exact g_retP C rfl rfl (show nI 2 = nI (tz6 x) by rw [e2]) dJ6_numberOfTrailingZeros_0f7a4_79
  · rw [e1]
    refine g_iload_n (pc' := 9) C 0 dJ6_numberOfTrailingZeros_0f7a4_8 rfl rfl rfl ?_
    refine g_if_gtN (pc' := 12) (tgt := 17) C (by first | assumption | omega) dJ6_numberOfTrailingZeros_0f7a4_9 (by decide) rfl (fun _ => ?_) (fun z => absurd z (by decide))
    refine g_iconst (pc' := 18) (v := nI 1) C dJ6_numberOfTrailingZeros_0f7a4_17 (by decide) rfl ?_
    refine g_istore_n (pc' := 19) (lv' := [(1, .int (nI 1)), (0, .int (nI 7))]) C dJ6_numberOfTrailingZeros_0f7a4_18 rfl (by decide) rfl rfl ?_
    refine g_iload_n (pc' := 20) C 1 dJ6_numberOfTrailingZeros_0f7a4_19 rfl rfl rfl ?_
    refine g_ldcw (pc' := 23) C wd_const_RJ6_264 dJ6_numberOfTrailingZeros_0f7a4_20 rfl ?_
    refine g_val (y := nI 65536) (by decide) ?_
    refine g_icmp_leN (pc' := 26) (tgt := 34) C (by first | assumption | omega) (by first | assumption | omega) dJ6_numberOfTrailingZeros_0f7a4_23 (by decide) rfl (fun _ => ?_) (fun z => absurd z (by decide))
    refine g_iload_n (pc' := 35) C 1 dJ6_numberOfTrailingZeros_0f7a4_34 rfl rfl rfl ?_
    refine g_sipush (pc' := 38) (v := nI 256) C dJ6_numberOfTrailingZeros_0f7a4_35 (by decide) rfl ?_
    refine g_icmp_leN (pc' := 41) (tgt := 49) C (by first | assumption | omega) (by first | assumption | omega) dJ6_numberOfTrailingZeros_0f7a4_38 (by decide) rfl (fun _ => ?_) (fun z => absurd z (by decide))
    refine g_iload_n (pc' := 50) C 1 dJ6_numberOfTrailingZeros_0f7a4_49 rfl rfl rfl ?_
    refine g_bipush (pc' := 52) (v := nI 16) C dJ6_numberOfTrailingZeros_0f7a4_50 (by decide) rfl ?_
    refine g_icmp_leN (pc' := 55) (tgt := 62) C (by first | assumption | omega) (by first | assumption | omega) dJ6_numberOfTrailingZeros_0f7a4_52 (by decide) rfl (fun _ => ?_) (fun z => absurd z (by decide))
    refine g_iload_n (pc' := 63) C 1 dJ6_numberOfTrailingZeros_0f7a4_62 rfl rfl rfl ?_
    refine g_iconst (pc' := 64) (v := nI 4) C dJ6_numberOfTrailingZeros_0f7a4_63 (by decide) rfl ?_
    refine g_icmp_leN (pc' := 67) (tgt := 74) C (by first | assumption | omega) (by first | assumption | omega) dJ6_numberOfTrailingZeros_0f7a4_64 (by decide) rfl (fun z => absurd z (by decide)) (fun _ => ?_)
    refine g_iinc (pc' := 70) (v := nI 3) (lv' := [(1, .int (nI 3)), (0, .int (nI 7))]) C 0 dJ6_numberOfTrailingZeros_0f7a4_67 rfl (by decide) (by decide) rfl rfl ?_
    refine g_iload_n (pc' := 71) C 1 dJ6_numberOfTrailingZeros_0f7a4_70 rfl rfl rfl ?_
    refine g_iconst (pc' := 72) (v := nI 2) C dJ6_numberOfTrailingZeros_0f7a4_71 (by decide) rfl ?_
    refine g_iushr (pc' := 73) (v := nI 1) C dJ6_numberOfTrailingZeros_0f7a4_72 (by decide) rfl ?_
    refine g_istore_n (pc' := 74) (lv' := [(0, .int (nI 1)), (1, .int (nI 3))]) C dJ6_numberOfTrailingZeros_0f7a4_73 rfl (by decide) rfl rfl ?_
    refine g_iload_n (pc' := 75) C 1 dJ6_numberOfTrailingZeros_0f7a4_74 rfl rfl rfl ?_
    refine g_iload_n (pc' := 76) C 0 dJ6_numberOfTrailingZeros_0f7a4_75 rfl rfl rfl ?_
    refine g_iconst (pc' := 77) (v := nI 1) C dJ6_numberOfTrailingZeros_0f7a4_76 (by decide) rfl ?_
    refine g_iushr (pc' := 78) (v := nI 0) C dJ6_numberOfTrailingZeros_0f7a4_77 (by decide) rfl ?_
    refine g_iadd (pc' := 79) (v := nI 3) C dJ6_numberOfTrailingZeros_0f7a4_78 (by decide) rfl ?_
    exact g_retP C rfl rfl (show nI 3 = nI (tz6 x) by rw [e2]) dJ6_numberOfTrailingZeros_0f7a4_79
  · rw [e1]
    refine g_iload_n (pc' := 9) C 0 dJ6_numberOfTrailingZeros_0f7a4_8 rfl rfl rfl ?_
    refine g_if_gtN (pc' := 12) (tgt := 17) C (by first | assumption | omega) dJ6_numberOfTrailingZeros_0f7a4_9 (by decide) rfl (fun _ => ?_) (fun z => absurd z (by decide))
    refine g_iconst (pc' := 18) (v := nI 1) C dJ6_numberOfTrailingZeros_0f7a4_17 (by decide) rfl ?_
    refine g_istore_n (pc' := 19) (lv' := [(1, .int (nI 1)), (0, .int (nI 15))]) C dJ6_numberOfTrailingZeros_0f7a4_18 rfl (by decide) rfl rfl ?_
    refine g_iload_n (pc' := 20) C 1 dJ6_numberOfTrailingZeros_0f7a4_19 rfl rfl rfl ?_
    refine g_ldcw (pc' := 23) C wd_const_RJ6_264 dJ6_numberOfTrailingZeros_0f7a4_20 rfl ?_
    refine g_val (y := nI 65536) (by decide) ?_
    refine g_icmp_leN (pc' := 26) (tgt := 34) C (by first | assumption | omega) (by first | assumption | omega) dJ6_numberOfTrailingZeros_0f7a4_23 (by decide) rfl (fun _ => ?_) (fun z => absurd z (by decide))
    refine g_iload_n (pc' := 35) C 1 dJ6_numberOfTrailingZeros_0f7a4_34 rfl rfl rfl ?_
    refine g_sipush (pc' := 38) (v := nI 256) C dJ6_numberOfTrailingZeros_0f7a4_35 (by decide) rfl ?_
    refine g_icmp_leN (pc' := 41) (tgt := 49) C (by first | assumption | omega) (by first | assumption | omega) dJ6_numberOfTrailingZeros_0f7a4_38 (by decide) rfl (fun _ => ?_) (fun z => absurd z (by decide))
    refine g_iload_n (pc' := 50) C 1 dJ6_numberOfTrailingZeros_0f7a4_49 rfl rfl rfl ?_
    refine g_bipush (pc' := 52) (v := nI 16) C dJ6_numberOfTrailingZeros_0f7a4_50 (by decide) rfl ?_
    refine g_icmp_leN (pc' := 55) (tgt := 62) C (by first | assumption | omega) (by first | assumption | omega) dJ6_numberOfTrailingZeros_0f7a4_52 (by decide) rfl (fun _ => ?_) (fun z => absurd z (by decide))
    refine g_iload_n (pc' := 63) C 1 dJ6_numberOfTrailingZeros_0f7a4_62 rfl rfl rfl ?_
    refine g_iconst (pc' := 64) (v := nI 4) C dJ6_numberOfTrailingZeros_0f7a4_63 (by decide) rfl ?_
    refine g_icmp_leN (pc' := 67) (tgt := 74) C (by first | assumption | omega) (by first | assumption | omega) dJ6_numberOfTrailingZeros_0f7a4_64 (by decide) rfl (fun z => absurd z (by decide)) (fun _ => ?_)
    refine g_iinc (pc' := 70) (v := nI 3) (lv' := [(1, .int (nI 3)), (0, .int (nI 15))]) C 0 dJ6_numberOfTrailingZeros_0f7a4_67 rfl (by decide) (by decide) rfl rfl ?_
    refine g_iload_n (pc' := 71) C 1 dJ6_numberOfTrailingZeros_0f7a4_70 rfl rfl rfl ?_
    refine g_iconst (pc' := 72) (v := nI 2) C dJ6_numberOfTrailingZeros_0f7a4_71 (by decide) rfl ?_
    refine g_iushr (pc' := 73) (v := nI 3) C dJ6_numberOfTrailingZeros_0f7a4_72 (by decide) rfl ?_
    refine g_istore_n (pc' := 74) (lv' := [(0, .int (nI 3)), (1, .int (nI 3))]) C dJ6_numberOfTrailingZeros_0f7a4_73 rfl (by decide) rfl rfl ?_
    refine g_iload_n (pc' := 75) C 1 dJ6_numberOfTrailingZeros_0f7a4_74 rfl rfl rfl ?_
    refine g_iload_n (pc' := 76) C 0 dJ6_numberOfTrailingZeros_0f7a4_75 rfl rfl rfl ?_
    refine g_iconst (pc' := 77) (v := nI 1) C dJ6_numberOfTrailingZeros_0f7a4_76 (by decide) rfl ?_
    refine g_iushr (pc' := 78) (v := nI 1) C dJ6_numberOfTrailingZeros_0f7a4_77 (by decide) rfl ?_
    refine g_iadd (pc' := 79) (v := nI 4) C dJ6_numberOfTrailingZeros_0f7a4_78 (by decide) rfl ?_
    exact g_retP C rfl rfl (show nI 4 = nI (tz6 x) by rw [e2]) dJ6_numberOfTrailingZeros_0f7a4_79
  · rw [e1]
    refine g_iload_n (pc' := 9) C 0 dJ6_numberOfTrailingZeros_0f7a4_8 rfl rfl rfl ?_
    refine g_if_gtN (pc' := 12) (tgt := 17) C (by first | assumption | omega) dJ6_numberOfTrailingZeros_0f7a4_9 (by decide) rfl (fun _ => ?_) (fun z => absurd z (by decide))
    refine g_iconst (pc' := 18) (v := nI 1) C dJ6_numberOfTrailingZeros_0f7a4_17 (by decide) rfl ?_
    refine g_istore_n (pc' := 19) (lv' := [(1, .int (nI 1)), (0, .int (nI 31))]) C dJ6_numberOfTrailingZeros_0f7a4_18 rfl (by decide) rfl rfl ?_
    refine g_iload_n (pc' := 20) C 1 dJ6_numberOfTrailingZeros_0f7a4_19 rfl rfl rfl ?_
    refine g_ldcw (pc' := 23) C wd_const_RJ6_264 dJ6_numberOfTrailingZeros_0f7a4_20 rfl ?_
    refine g_val (y := nI 65536) (by decide) ?_
    refine g_icmp_leN (pc' := 26) (tgt := 34) C (by first | assumption | omega) (by first | assumption | omega) dJ6_numberOfTrailingZeros_0f7a4_23 (by decide) rfl (fun _ => ?_) (fun z => absurd z (by decide))
    refine g_iload_n (pc' := 35) C 1 dJ6_numberOfTrailingZeros_0f7a4_34 rfl rfl rfl ?_
    refine g_sipush (pc' := 38) (v := nI 256) C dJ6_numberOfTrailingZeros_0f7a4_35 (by decide) rfl ?_
    refine g_icmp_leN (pc' := 41) (tgt := 49) C (by first | assumption | omega) (by first | assumption | omega) dJ6_numberOfTrailingZeros_0f7a4_38 (by decide) rfl (fun _ => ?_) (fun z => absurd z (by decide))
    refine g_iload_n (pc' := 50) C 1 dJ6_numberOfTrailingZeros_0f7a4_49 rfl rfl rfl ?_
    refine g_bipush (pc' := 52) (v := nI 16) C dJ6_numberOfTrailingZeros_0f7a4_50 (by decide) rfl ?_
    refine g_icmp_leN (pc' := 55) (tgt := 62) C (by first | assumption | omega) (by first | assumption | omega) dJ6_numberOfTrailingZeros_0f7a4_52 (by decide) rfl (fun z => absurd z (by decide)) (fun _ => ?_)
    refine g_iinc (pc' := 58) (v := nI 5) (lv' := [(1, .int (nI 5)), (0, .int (nI 31))]) C 0 dJ6_numberOfTrailingZeros_0f7a4_55 rfl (by decide) (by decide) rfl rfl ?_
    refine g_iload_n (pc' := 59) C 1 dJ6_numberOfTrailingZeros_0f7a4_58 rfl rfl rfl ?_
    refine g_iconst (pc' := 60) (v := nI 4) C dJ6_numberOfTrailingZeros_0f7a4_59 (by decide) rfl ?_
    refine g_iushr (pc' := 61) (v := nI 1) C dJ6_numberOfTrailingZeros_0f7a4_60 (by decide) rfl ?_
    refine g_istore_n (pc' := 62) (lv' := [(0, .int (nI 1)), (1, .int (nI 5))]) C dJ6_numberOfTrailingZeros_0f7a4_61 rfl (by decide) rfl rfl ?_
    refine g_iload_n (pc' := 63) C 0 dJ6_numberOfTrailingZeros_0f7a4_62 rfl rfl rfl ?_
    refine g_iconst (pc' := 64) (v := nI 4) C dJ6_numberOfTrailingZeros_0f7a4_63 (by decide) rfl ?_
    refine g_icmp_leN (pc' := 67) (tgt := 74) C (by first | assumption | omega) (by first | assumption | omega) dJ6_numberOfTrailingZeros_0f7a4_64 (by decide) rfl (fun _ => ?_) (fun z => absurd z (by decide))
    refine g_iload_n (pc' := 75) C 1 dJ6_numberOfTrailingZeros_0f7a4_74 rfl rfl rfl ?_
    refine g_iload_n (pc' := 76) C 0 dJ6_numberOfTrailingZeros_0f7a4_75 rfl rfl rfl ?_
    refine g_iconst (pc' := 77) (v := nI 1) C dJ6_numberOfTrailingZeros_0f7a4_76 (by decide) rfl ?_
    refine g_iushr (pc' := 78) (v := nI 0) C dJ6_numberOfTrailingZeros_0f7a4_77 (by decide) rfl ?_
    refine g_iadd (pc' := 79) (v := nI 5) C dJ6_numberOfTrailingZeros_0f7a4_78 (by decide) rfl ?_
    exact g_retP C rfl rfl (show nI 5 = nI (tz6 x) by rw [e2]) dJ6_numberOfTrailingZeros_0f7a4_79

theorem bc6_all : ∀ x, x < 64 → ((((((((nI x) - ((((nI x).toUInt32 >>> ((nI 1).toUInt32 &&& Int32.toUInt32 31)).toInt32) &&& (nI 1431655765))) &&& (nI 858993459)) + (((((nI x) - ((((nI x).toUInt32 >>> ((nI 1).toUInt32 &&& Int32.toUInt32 31)).toInt32) &&& (nI 1431655765))).toUInt32 >>> ((nI 2).toUInt32 &&& Int32.toUInt32 31)).toInt32) &&& (nI 858993459))) + ((((((nI x) - ((((nI x).toUInt32 >>> ((nI 1).toUInt32 &&& Int32.toUInt32 31)).toInt32) &&& (nI 1431655765))) &&& (nI 858993459)) + (((((nI x) - ((((nI x).toUInt32 >>> ((nI 1).toUInt32 &&& Int32.toUInt32 31)).toInt32) &&& (nI 1431655765))).toUInt32 >>> ((nI 2).toUInt32 &&& Int32.toUInt32 31)).toInt32) &&& (nI 858993459))).toUInt32 >>> ((nI 4).toUInt32 &&& Int32.toUInt32 31)).toInt32)) &&& (nI 252645135)) + ((((((((nI x) - ((((nI x).toUInt32 >>> ((nI 1).toUInt32 &&& Int32.toUInt32 31)).toInt32) &&& (nI 1431655765))) &&& (nI 858993459)) + (((((nI x) - ((((nI x).toUInt32 >>> ((nI 1).toUInt32 &&& Int32.toUInt32 31)).toInt32) &&& (nI 1431655765))).toUInt32 >>> ((nI 2).toUInt32 &&& Int32.toUInt32 31)).toInt32) &&& (nI 858993459))) + ((((((nI x) - ((((nI x).toUInt32 >>> ((nI 1).toUInt32 &&& Int32.toUInt32 31)).toInt32) &&& (nI 1431655765))) &&& (nI 858993459)) + (((((nI x) - ((((nI x).toUInt32 >>> ((nI 1).toUInt32 &&& Int32.toUInt32 31)).toInt32) &&& (nI 1431655765))).toUInt32 >>> ((nI 2).toUInt32 &&& Int32.toUInt32 31)).toInt32) &&& (nI 858993459))).toUInt32 >>> ((nI 4).toUInt32 &&& Int32.toUInt32 31)).toInt32)) &&& (nI 252645135)).toUInt32 >>> ((nI 8).toUInt32 &&& Int32.toUInt32 31)).toInt32)) + (((((((((nI x) - ((((nI x).toUInt32 >>> ((nI 1).toUInt32 &&& Int32.toUInt32 31)).toInt32) &&& (nI 1431655765))) &&& (nI 858993459)) + (((((nI x) - ((((nI x).toUInt32 >>> ((nI 1).toUInt32 &&& Int32.toUInt32 31)).toInt32) &&& (nI 1431655765))).toUInt32 >>> ((nI 2).toUInt32 &&& Int32.toUInt32 31)).toInt32) &&& (nI 858993459))) + ((((((nI x) - ((((nI x).toUInt32 >>> ((nI 1).toUInt32 &&& Int32.toUInt32 31)).toInt32) &&& (nI 1431655765))) &&& (nI 858993459)) + (((((nI x) - ((((nI x).toUInt32 >>> ((nI 1).toUInt32 &&& Int32.toUInt32 31)).toInt32) &&& (nI 1431655765))).toUInt32 >>> ((nI 2).toUInt32 &&& Int32.toUInt32 31)).toInt32) &&& (nI 858993459))).toUInt32 >>> ((nI 4).toUInt32 &&& Int32.toUInt32 31)).toInt32)) &&& (nI 252645135)) + ((((((((nI x) - ((((nI x).toUInt32 >>> ((nI 1).toUInt32 &&& Int32.toUInt32 31)).toInt32) &&& (nI 1431655765))) &&& (nI 858993459)) + (((((nI x) - ((((nI x).toUInt32 >>> ((nI 1).toUInt32 &&& Int32.toUInt32 31)).toInt32) &&& (nI 1431655765))).toUInt32 >>> ((nI 2).toUInt32 &&& Int32.toUInt32 31)).toInt32) &&& (nI 858993459))) + ((((((nI x) - ((((nI x).toUInt32 >>> ((nI 1).toUInt32 &&& Int32.toUInt32 31)).toInt32) &&& (nI 1431655765))) &&& (nI 858993459)) + (((((nI x) - ((((nI x).toUInt32 >>> ((nI 1).toUInt32 &&& Int32.toUInt32 31)).toInt32) &&& (nI 1431655765))).toUInt32 >>> ((nI 2).toUInt32 &&& Int32.toUInt32 31)).toInt32) &&& (nI 858993459))).toUInt32 >>> ((nI 4).toUInt32 &&& Int32.toUInt32 31)).toInt32)) &&& (nI 252645135)).toUInt32 >>> ((nI 8).toUInt32 &&& Int32.toUInt32 31)).toInt32)).toUInt32 >>> ((nI 16).toUInt32 &&& Int32.toUInt32 31)).toInt32)) &&& (nI 63) = nI (bc6 x) := by decide +kernel

set_option maxHeartbeats 4000000 in
set_option maxRecDepth 100000 in
theorem kJ6_bitCount_0f7a4 (l : Launch) (κ : KK) (x : Nat) (h1 : x < 64) : CP l yJ6_bitCount_0f7a4 cJ6_bitCount_0f7a4 1 (some .int) 0 κ [.int (nI x)] [] (fun vr_ => vr_ = nI (bc6 x)) := by
  refine cp_of RJ6 rfl (by decide) (Nat.le_of_ble_eq_true rfl) ?_
  intro p e s m below meth c C
  refine g_lv (lv' := [(0, .int (nI x))]) [0] rfl ?_
  refine g_iload_n (pc' := 1) C 0 dJ6_bitCount_0f7a4_0 rfl rfl rfl ?_
  refine g_iload_n (pc' := 2) C 0 dJ6_bitCount_0f7a4_1 rfl rfl rfl ?_
  refine g_iconst (pc' := 3) (v := nI 1) C dJ6_bitCount_0f7a4_2 (by decide) rfl ?_
  refine g_iushr (pc' := 4) (v := ((nI x).toUInt32 >>> ((nI 1).toUInt32 &&& Int32.toUInt32 31)).toInt32) C dJ6_bitCount_0f7a4_3 rfl rfl ?_
  refine g_ldcw (pc' := 7) C wd_const_RJ6_265 dJ6_bitCount_0f7a4_4 rfl ?_
  refine g_val (y := nI 1431655765) (by decide) ?_
  refine g_iand (pc' := 8) (v := (((nI x).toUInt32 >>> ((nI 1).toUInt32 &&& Int32.toUInt32 31)).toInt32) &&& (nI 1431655765)) C dJ6_bitCount_0f7a4_7 rfl rfl ?_
  refine g_isub (pc' := 9) (v := (nI x) - ((((nI x).toUInt32 >>> ((nI 1).toUInt32 &&& Int32.toUInt32 31)).toInt32) &&& (nI 1431655765))) C dJ6_bitCount_0f7a4_8 rfl rfl ?_
  refine g_istore_n (pc' := 10) (lv' := [(0, .int ((nI x) - ((((nI x).toUInt32 >>> ((nI 1).toUInt32 &&& Int32.toUInt32 31)).toInt32) &&& (nI 1431655765))))]) C dJ6_bitCount_0f7a4_9 rfl (by decide) rfl rfl ?_
  refine g_iload_n (pc' := 11) C 0 dJ6_bitCount_0f7a4_10 rfl rfl rfl ?_
  refine g_ldcw (pc' := 14) C wd_const_RJ6_266 dJ6_bitCount_0f7a4_11 rfl ?_
  refine g_val (y := nI 858993459) (by decide) ?_
  refine g_iand (pc' := 15) (v := ((nI x) - ((((nI x).toUInt32 >>> ((nI 1).toUInt32 &&& Int32.toUInt32 31)).toInt32) &&& (nI 1431655765))) &&& (nI 858993459)) C dJ6_bitCount_0f7a4_14 rfl rfl ?_
  refine g_iload_n (pc' := 16) C 0 dJ6_bitCount_0f7a4_15 rfl rfl rfl ?_
  refine g_iconst (pc' := 17) (v := nI 2) C dJ6_bitCount_0f7a4_16 (by decide) rfl ?_
  refine g_iushr (pc' := 18) (v := (((nI x) - ((((nI x).toUInt32 >>> ((nI 1).toUInt32 &&& Int32.toUInt32 31)).toInt32) &&& (nI 1431655765))).toUInt32 >>> ((nI 2).toUInt32 &&& Int32.toUInt32 31)).toInt32) C dJ6_bitCount_0f7a4_17 rfl rfl ?_
  refine g_ldcw (pc' := 21) C wd_const_RJ6_266 dJ6_bitCount_0f7a4_18 rfl ?_
  refine g_val (y := nI 858993459) (by decide) ?_
  refine g_iand (pc' := 22) (v := ((((nI x) - ((((nI x).toUInt32 >>> ((nI 1).toUInt32 &&& Int32.toUInt32 31)).toInt32) &&& (nI 1431655765))).toUInt32 >>> ((nI 2).toUInt32 &&& Int32.toUInt32 31)).toInt32) &&& (nI 858993459)) C dJ6_bitCount_0f7a4_21 rfl rfl ?_
  refine g_iadd (pc' := 23) (v := (((nI x) - ((((nI x).toUInt32 >>> ((nI 1).toUInt32 &&& Int32.toUInt32 31)).toInt32) &&& (nI 1431655765))) &&& (nI 858993459)) + (((((nI x) - ((((nI x).toUInt32 >>> ((nI 1).toUInt32 &&& Int32.toUInt32 31)).toInt32) &&& (nI 1431655765))).toUInt32 >>> ((nI 2).toUInt32 &&& Int32.toUInt32 31)).toInt32) &&& (nI 858993459))) C dJ6_bitCount_0f7a4_22 rfl rfl ?_
  refine g_istore_n (pc' := 24) (lv' := [(0, .int ((((nI x) - ((((nI x).toUInt32 >>> ((nI 1).toUInt32 &&& Int32.toUInt32 31)).toInt32) &&& (nI 1431655765))) &&& (nI 858993459)) + (((((nI x) - ((((nI x).toUInt32 >>> ((nI 1).toUInt32 &&& Int32.toUInt32 31)).toInt32) &&& (nI 1431655765))).toUInt32 >>> ((nI 2).toUInt32 &&& Int32.toUInt32 31)).toInt32) &&& (nI 858993459))))]) C dJ6_bitCount_0f7a4_23 rfl (by decide) rfl rfl ?_
  refine g_iload_n (pc' := 25) C 0 dJ6_bitCount_0f7a4_24 rfl rfl rfl ?_
  refine g_iload_n (pc' := 26) C 0 dJ6_bitCount_0f7a4_25 rfl rfl rfl ?_
  refine g_iconst (pc' := 27) (v := nI 4) C dJ6_bitCount_0f7a4_26 (by decide) rfl ?_
  refine g_iushr (pc' := 28) (v := (((((nI x) - ((((nI x).toUInt32 >>> ((nI 1).toUInt32 &&& Int32.toUInt32 31)).toInt32) &&& (nI 1431655765))) &&& (nI 858993459)) + (((((nI x) - ((((nI x).toUInt32 >>> ((nI 1).toUInt32 &&& Int32.toUInt32 31)).toInt32) &&& (nI 1431655765))).toUInt32 >>> ((nI 2).toUInt32 &&& Int32.toUInt32 31)).toInt32) &&& (nI 858993459))).toUInt32 >>> ((nI 4).toUInt32 &&& Int32.toUInt32 31)).toInt32) C dJ6_bitCount_0f7a4_27 rfl rfl ?_
  refine g_iadd (pc' := 29) (v := ((((nI x) - ((((nI x).toUInt32 >>> ((nI 1).toUInt32 &&& Int32.toUInt32 31)).toInt32) &&& (nI 1431655765))) &&& (nI 858993459)) + (((((nI x) - ((((nI x).toUInt32 >>> ((nI 1).toUInt32 &&& Int32.toUInt32 31)).toInt32) &&& (nI 1431655765))).toUInt32 >>> ((nI 2).toUInt32 &&& Int32.toUInt32 31)).toInt32) &&& (nI 858993459))) + ((((((nI x) - ((((nI x).toUInt32 >>> ((nI 1).toUInt32 &&& Int32.toUInt32 31)).toInt32) &&& (nI 1431655765))) &&& (nI 858993459)) + (((((nI x) - ((((nI x).toUInt32 >>> ((nI 1).toUInt32 &&& Int32.toUInt32 31)).toInt32) &&& (nI 1431655765))).toUInt32 >>> ((nI 2).toUInt32 &&& Int32.toUInt32 31)).toInt32) &&& (nI 858993459))).toUInt32 >>> ((nI 4).toUInt32 &&& Int32.toUInt32 31)).toInt32)) C dJ6_bitCount_0f7a4_28 rfl rfl ?_
  refine g_ldcw (pc' := 32) C wd_const_RJ6_267 dJ6_bitCount_0f7a4_29 rfl ?_
  refine g_val (y := nI 252645135) (by decide) ?_
  refine g_iand (pc' := 33) (v := (((((nI x) - ((((nI x).toUInt32 >>> ((nI 1).toUInt32 &&& Int32.toUInt32 31)).toInt32) &&& (nI 1431655765))) &&& (nI 858993459)) + (((((nI x) - ((((nI x).toUInt32 >>> ((nI 1).toUInt32 &&& Int32.toUInt32 31)).toInt32) &&& (nI 1431655765))).toUInt32 >>> ((nI 2).toUInt32 &&& Int32.toUInt32 31)).toInt32) &&& (nI 858993459))) + ((((((nI x) - ((((nI x).toUInt32 >>> ((nI 1).toUInt32 &&& Int32.toUInt32 31)).toInt32) &&& (nI 1431655765))) &&& (nI 858993459)) + (((((nI x) - ((((nI x).toUInt32 >>> ((nI 1).toUInt32 &&& Int32.toUInt32 31)).toInt32) &&& (nI 1431655765))).toUInt32 >>> ((nI 2).toUInt32 &&& Int32.toUInt32 31)).toInt32) &&& (nI 858993459))).toUInt32 >>> ((nI 4).toUInt32 &&& Int32.toUInt32 31)).toInt32)) &&& (nI 252645135)) C dJ6_bitCount_0f7a4_32 rfl rfl ?_
  refine g_istore_n (pc' := 34) (lv' := [(0, .int ((((((nI x) - ((((nI x).toUInt32 >>> ((nI 1).toUInt32 &&& Int32.toUInt32 31)).toInt32) &&& (nI 1431655765))) &&& (nI 858993459)) + (((((nI x) - ((((nI x).toUInt32 >>> ((nI 1).toUInt32 &&& Int32.toUInt32 31)).toInt32) &&& (nI 1431655765))).toUInt32 >>> ((nI 2).toUInt32 &&& Int32.toUInt32 31)).toInt32) &&& (nI 858993459))) + ((((((nI x) - ((((nI x).toUInt32 >>> ((nI 1).toUInt32 &&& Int32.toUInt32 31)).toInt32) &&& (nI 1431655765))) &&& (nI 858993459)) + (((((nI x) - ((((nI x).toUInt32 >>> ((nI 1).toUInt32 &&& Int32.toUInt32 31)).toInt32) &&& (nI 1431655765))).toUInt32 >>> ((nI 2).toUInt32 &&& Int32.toUInt32 31)).toInt32) &&& (nI 858993459))).toUInt32 >>> ((nI 4).toUInt32 &&& Int32.toUInt32 31)).toInt32)) &&& (nI 252645135)))]) C dJ6_bitCount_0f7a4_33 rfl (by decide) rfl rfl ?_
  refine g_iload_n (pc' := 35) C 0 dJ6_bitCount_0f7a4_34 rfl rfl rfl ?_
  refine g_iload_n (pc' := 36) C 0 dJ6_bitCount_0f7a4_35 rfl rfl rfl ?_
  refine g_bipush (pc' := 38) (v := nI 8) C dJ6_bitCount_0f7a4_36 (by decide) rfl ?_
  refine g_iushr (pc' := 39) (v := (((((((nI x) - ((((nI x).toUInt32 >>> ((nI 1).toUInt32 &&& Int32.toUInt32 31)).toInt32) &&& (nI 1431655765))) &&& (nI 858993459)) + (((((nI x) - ((((nI x).toUInt32 >>> ((nI 1).toUInt32 &&& Int32.toUInt32 31)).toInt32) &&& (nI 1431655765))).toUInt32 >>> ((nI 2).toUInt32 &&& Int32.toUInt32 31)).toInt32) &&& (nI 858993459))) + ((((((nI x) - ((((nI x).toUInt32 >>> ((nI 1).toUInt32 &&& Int32.toUInt32 31)).toInt32) &&& (nI 1431655765))) &&& (nI 858993459)) + (((((nI x) - ((((nI x).toUInt32 >>> ((nI 1).toUInt32 &&& Int32.toUInt32 31)).toInt32) &&& (nI 1431655765))).toUInt32 >>> ((nI 2).toUInt32 &&& Int32.toUInt32 31)).toInt32) &&& (nI 858993459))).toUInt32 >>> ((nI 4).toUInt32 &&& Int32.toUInt32 31)).toInt32)) &&& (nI 252645135)).toUInt32 >>> ((nI 8).toUInt32 &&& Int32.toUInt32 31)).toInt32) C dJ6_bitCount_0f7a4_38 rfl rfl ?_
  refine g_iadd (pc' := 40) (v := ((((((nI x) - ((((nI x).toUInt32 >>> ((nI 1).toUInt32 &&& Int32.toUInt32 31)).toInt32) &&& (nI 1431655765))) &&& (nI 858993459)) + (((((nI x) - ((((nI x).toUInt32 >>> ((nI 1).toUInt32 &&& Int32.toUInt32 31)).toInt32) &&& (nI 1431655765))).toUInt32 >>> ((nI 2).toUInt32 &&& Int32.toUInt32 31)).toInt32) &&& (nI 858993459))) + ((((((nI x) - ((((nI x).toUInt32 >>> ((nI 1).toUInt32 &&& Int32.toUInt32 31)).toInt32) &&& (nI 1431655765))) &&& (nI 858993459)) + (((((nI x) - ((((nI x).toUInt32 >>> ((nI 1).toUInt32 &&& Int32.toUInt32 31)).toInt32) &&& (nI 1431655765))).toUInt32 >>> ((nI 2).toUInt32 &&& Int32.toUInt32 31)).toInt32) &&& (nI 858993459))).toUInt32 >>> ((nI 4).toUInt32 &&& Int32.toUInt32 31)).toInt32)) &&& (nI 252645135)) + ((((((((nI x) - ((((nI x).toUInt32 >>> ((nI 1).toUInt32 &&& Int32.toUInt32 31)).toInt32) &&& (nI 1431655765))) &&& (nI 858993459)) + (((((nI x) - ((((nI x).toUInt32 >>> ((nI 1).toUInt32 &&& Int32.toUInt32 31)).toInt32) &&& (nI 1431655765))).toUInt32 >>> ((nI 2).toUInt32 &&& Int32.toUInt32 31)).toInt32) &&& (nI 858993459))) + ((((((nI x) - ((((nI x).toUInt32 >>> ((nI 1).toUInt32 &&& Int32.toUInt32 31)).toInt32) &&& (nI 1431655765))) &&& (nI 858993459)) + (((((nI x) - ((((nI x).toUInt32 >>> ((nI 1).toUInt32 &&& Int32.toUInt32 31)).toInt32) &&& (nI 1431655765))).toUInt32 >>> ((nI 2).toUInt32 &&& Int32.toUInt32 31)).toInt32) &&& (nI 858993459))).toUInt32 >>> ((nI 4).toUInt32 &&& Int32.toUInt32 31)).toInt32)) &&& (nI 252645135)).toUInt32 >>> ((nI 8).toUInt32 &&& Int32.toUInt32 31)).toInt32)) C dJ6_bitCount_0f7a4_39 rfl rfl ?_
  refine g_istore_n (pc' := 41) (lv' := [(0, .int (((((((nI x) - ((((nI x).toUInt32 >>> ((nI 1).toUInt32 &&& Int32.toUInt32 31)).toInt32) &&& (nI 1431655765))) &&& (nI 858993459)) + (((((nI x) - ((((nI x).toUInt32 >>> ((nI 1).toUInt32 &&& Int32.toUInt32 31)).toInt32) &&& (nI 1431655765))).toUInt32 >>> ((nI 2).toUInt32 &&& Int32.toUInt32 31)).toInt32) &&& (nI 858993459))) + ((((((nI x) - ((((nI x).toUInt32 >>> ((nI 1).toUInt32 &&& Int32.toUInt32 31)).toInt32) &&& (nI 1431655765))) &&& (nI 858993459)) + (((((nI x) - ((((nI x).toUInt32 >>> ((nI 1).toUInt32 &&& Int32.toUInt32 31)).toInt32) &&& (nI 1431655765))).toUInt32 >>> ((nI 2).toUInt32 &&& Int32.toUInt32 31)).toInt32) &&& (nI 858993459))).toUInt32 >>> ((nI 4).toUInt32 &&& Int32.toUInt32 31)).toInt32)) &&& (nI 252645135)) + ((((((((nI x) - ((((nI x).toUInt32 >>> ((nI 1).toUInt32 &&& Int32.toUInt32 31)).toInt32) &&& (nI 1431655765))) &&& (nI 858993459)) + (((((nI x) - ((((nI x).toUInt32 >>> ((nI 1).toUInt32 &&& Int32.toUInt32 31)).toInt32) &&& (nI 1431655765))).toUInt32 >>> ((nI 2).toUInt32 &&& Int32.toUInt32 31)).toInt32) &&& (nI 858993459))) + ((((((nI x) - ((((nI x).toUInt32 >>> ((nI 1).toUInt32 &&& Int32.toUInt32 31)).toInt32) &&& (nI 1431655765))) &&& (nI 858993459)) + (((((nI x) - ((((nI x).toUInt32 >>> ((nI 1).toUInt32 &&& Int32.toUInt32 31)).toInt32) &&& (nI 1431655765))).toUInt32 >>> ((nI 2).toUInt32 &&& Int32.toUInt32 31)).toInt32) &&& (nI 858993459))).toUInt32 >>> ((nI 4).toUInt32 &&& Int32.toUInt32 31)).toInt32)) &&& (nI 252645135)).toUInt32 >>> ((nI 8).toUInt32 &&& Int32.toUInt32 31)).toInt32)))]) C dJ6_bitCount_0f7a4_40 rfl (by decide) rfl rfl ?_
  refine g_iload_n (pc' := 42) C 0 dJ6_bitCount_0f7a4_41 rfl rfl rfl ?_
  refine g_iload_n (pc' := 43) C 0 dJ6_bitCount_0f7a4_42 rfl rfl rfl ?_
  refine g_bipush (pc' := 45) (v := nI 16) C dJ6_bitCount_0f7a4_43 (by decide) rfl ?_
  refine g_iushr (pc' := 46) (v := ((((((((nI x) - ((((nI x).toUInt32 >>> ((nI 1).toUInt32 &&& Int32.toUInt32 31)).toInt32) &&& (nI 1431655765))) &&& (nI 858993459)) + (((((nI x) - ((((nI x).toUInt32 >>> ((nI 1).toUInt32 &&& Int32.toUInt32 31)).toInt32) &&& (nI 1431655765))).toUInt32 >>> ((nI 2).toUInt32 &&& Int32.toUInt32 31)).toInt32) &&& (nI 858993459))) + ((((((nI x) - ((((nI x).toUInt32 >>> ((nI 1).toUInt32 &&& Int32.toUInt32 31)).toInt32) &&& (nI 1431655765))) &&& (nI 858993459)) + (((((nI x) - ((((nI x).toUInt32 >>> ((nI 1).toUInt32 &&& Int32.toUInt32 31)).toInt32) &&& (nI 1431655765))).toUInt32 >>> ((nI 2).toUInt32 &&& Int32.toUInt32 31)).toInt32) &&& (nI 858993459))).toUInt32 >>> ((nI 4).toUInt32 &&& Int32.toUInt32 31)).toInt32)) &&& (nI 252645135)) + ((((((((nI x) - ((((nI x).toUInt32 >>> ((nI 1).toUInt32 &&& Int32.toUInt32 31)).toInt32) &&& (nI 1431655765))) &&& (nI 858993459)) + (((((nI x) - ((((nI x).toUInt32 >>> ((nI 1).toUInt32 &&& Int32.toUInt32 31)).toInt32) &&& (nI 1431655765))).toUInt32 >>> ((nI 2).toUInt32 &&& Int32.toUInt32 31)).toInt32) &&& (nI 858993459))) + ((((((nI x) - ((((nI x).toUInt32 >>> ((nI 1).toUInt32 &&& Int32.toUInt32 31)).toInt32) &&& (nI 1431655765))) &&& (nI 858993459)) + (((((nI x) - ((((nI x).toUInt32 >>> ((nI 1).toUInt32 &&& Int32.toUInt32 31)).toInt32) &&& (nI 1431655765))).toUInt32 >>> ((nI 2).toUInt32 &&& Int32.toUInt32 31)).toInt32) &&& (nI 858993459))).toUInt32 >>> ((nI 4).toUInt32 &&& Int32.toUInt32 31)).toInt32)) &&& (nI 252645135)).toUInt32 >>> ((nI 8).toUInt32 &&& Int32.toUInt32 31)).toInt32)).toUInt32 >>> ((nI 16).toUInt32 &&& Int32.toUInt32 31)).toInt32) C dJ6_bitCount_0f7a4_45 rfl rfl ?_
  refine g_iadd (pc' := 47) (v := (((((((nI x) - ((((nI x).toUInt32 >>> ((nI 1).toUInt32 &&& Int32.toUInt32 31)).toInt32) &&& (nI 1431655765))) &&& (nI 858993459)) + (((((nI x) - ((((nI x).toUInt32 >>> ((nI 1).toUInt32 &&& Int32.toUInt32 31)).toInt32) &&& (nI 1431655765))).toUInt32 >>> ((nI 2).toUInt32 &&& Int32.toUInt32 31)).toInt32) &&& (nI 858993459))) + ((((((nI x) - ((((nI x).toUInt32 >>> ((nI 1).toUInt32 &&& Int32.toUInt32 31)).toInt32) &&& (nI 1431655765))) &&& (nI 858993459)) + (((((nI x) - ((((nI x).toUInt32 >>> ((nI 1).toUInt32 &&& Int32.toUInt32 31)).toInt32) &&& (nI 1431655765))).toUInt32 >>> ((nI 2).toUInt32 &&& Int32.toUInt32 31)).toInt32) &&& (nI 858993459))).toUInt32 >>> ((nI 4).toUInt32 &&& Int32.toUInt32 31)).toInt32)) &&& (nI 252645135)) + ((((((((nI x) - ((((nI x).toUInt32 >>> ((nI 1).toUInt32 &&& Int32.toUInt32 31)).toInt32) &&& (nI 1431655765))) &&& (nI 858993459)) + (((((nI x) - ((((nI x).toUInt32 >>> ((nI 1).toUInt32 &&& Int32.toUInt32 31)).toInt32) &&& (nI 1431655765))).toUInt32 >>> ((nI 2).toUInt32 &&& Int32.toUInt32 31)).toInt32) &&& (nI 858993459))) + ((((((nI x) - ((((nI x).toUInt32 >>> ((nI 1).toUInt32 &&& Int32.toUInt32 31)).toInt32) &&& (nI 1431655765))) &&& (nI 858993459)) + (((((nI x) - ((((nI x).toUInt32 >>> ((nI 1).toUInt32 &&& Int32.toUInt32 31)).toInt32) &&& (nI 1431655765))).toUInt32 >>> ((nI 2).toUInt32 &&& Int32.toUInt32 31)).toInt32) &&& (nI 858993459))).toUInt32 >>> ((nI 4).toUInt32 &&& Int32.toUInt32 31)).toInt32)) &&& (nI 252645135)).toUInt32 >>> ((nI 8).toUInt32 &&& Int32.toUInt32 31)).toInt32)) + (((((((((nI x) - ((((nI x).toUInt32 >>> ((nI 1).toUInt32 &&& Int32.toUInt32 31)).toInt32) &&& (nI 1431655765))) &&& (nI 858993459)) + (((((nI x) - ((((nI x).toUInt32 >>> ((nI 1).toUInt32 &&& Int32.toUInt32 31)).toInt32) &&& (nI 1431655765))).toUInt32 >>> ((nI 2).toUInt32 &&& Int32.toUInt32 31)).toInt32) &&& (nI 858993459))) + ((((((nI x) - ((((nI x).toUInt32 >>> ((nI 1).toUInt32 &&& Int32.toUInt32 31)).toInt32) &&& (nI 1431655765))) &&& (nI 858993459)) + (((((nI x) - ((((nI x).toUInt32 >>> ((nI 1).toUInt32 &&& Int32.toUInt32 31)).toInt32) &&& (nI 1431655765))).toUInt32 >>> ((nI 2).toUInt32 &&& Int32.toUInt32 31)).toInt32) &&& (nI 858993459))).toUInt32 >>> ((nI 4).toUInt32 &&& Int32.toUInt32 31)).toInt32)) &&& (nI 252645135)) + ((((((((nI x) - ((((nI x).toUInt32 >>> ((nI 1).toUInt32 &&& Int32.toUInt32 31)).toInt32) &&& (nI 1431655765))) &&& (nI 858993459)) + (((((nI x) - ((((nI x).toUInt32 >>> ((nI 1).toUInt32 &&& Int32.toUInt32 31)).toInt32) &&& (nI 1431655765))).toUInt32 >>> ((nI 2).toUInt32 &&& Int32.toUInt32 31)).toInt32) &&& (nI 858993459))) + ((((((nI x) - ((((nI x).toUInt32 >>> ((nI 1).toUInt32 &&& Int32.toUInt32 31)).toInt32) &&& (nI 1431655765))) &&& (nI 858993459)) + (((((nI x) - ((((nI x).toUInt32 >>> ((nI 1).toUInt32 &&& Int32.toUInt32 31)).toInt32) &&& (nI 1431655765))).toUInt32 >>> ((nI 2).toUInt32 &&& Int32.toUInt32 31)).toInt32) &&& (nI 858993459))).toUInt32 >>> ((nI 4).toUInt32 &&& Int32.toUInt32 31)).toInt32)) &&& (nI 252645135)).toUInt32 >>> ((nI 8).toUInt32 &&& Int32.toUInt32 31)).toInt32)).toUInt32 >>> ((nI 16).toUInt32 &&& Int32.toUInt32 31)).toInt32)) C dJ6_bitCount_0f7a4_46 rfl rfl ?_
  refine g_istore_n (pc' := 48) (lv' := [(0, .int ((((((((nI x) - ((((nI x).toUInt32 >>> ((nI 1).toUInt32 &&& Int32.toUInt32 31)).toInt32) &&& (nI 1431655765))) &&& (nI 858993459)) + (((((nI x) - ((((nI x).toUInt32 >>> ((nI 1).toUInt32 &&& Int32.toUInt32 31)).toInt32) &&& (nI 1431655765))).toUInt32 >>> ((nI 2).toUInt32 &&& Int32.toUInt32 31)).toInt32) &&& (nI 858993459))) + ((((((nI x) - ((((nI x).toUInt32 >>> ((nI 1).toUInt32 &&& Int32.toUInt32 31)).toInt32) &&& (nI 1431655765))) &&& (nI 858993459)) + (((((nI x) - ((((nI x).toUInt32 >>> ((nI 1).toUInt32 &&& Int32.toUInt32 31)).toInt32) &&& (nI 1431655765))).toUInt32 >>> ((nI 2).toUInt32 &&& Int32.toUInt32 31)).toInt32) &&& (nI 858993459))).toUInt32 >>> ((nI 4).toUInt32 &&& Int32.toUInt32 31)).toInt32)) &&& (nI 252645135)) + ((((((((nI x) - ((((nI x).toUInt32 >>> ((nI 1).toUInt32 &&& Int32.toUInt32 31)).toInt32) &&& (nI 1431655765))) &&& (nI 858993459)) + (((((nI x) - ((((nI x).toUInt32 >>> ((nI 1).toUInt32 &&& Int32.toUInt32 31)).toInt32) &&& (nI 1431655765))).toUInt32 >>> ((nI 2).toUInt32 &&& Int32.toUInt32 31)).toInt32) &&& (nI 858993459))) + ((((((nI x) - ((((nI x).toUInt32 >>> ((nI 1).toUInt32 &&& Int32.toUInt32 31)).toInt32) &&& (nI 1431655765))) &&& (nI 858993459)) + (((((nI x) - ((((nI x).toUInt32 >>> ((nI 1).toUInt32 &&& Int32.toUInt32 31)).toInt32) &&& (nI 1431655765))).toUInt32 >>> ((nI 2).toUInt32 &&& Int32.toUInt32 31)).toInt32) &&& (nI 858993459))).toUInt32 >>> ((nI 4).toUInt32 &&& Int32.toUInt32 31)).toInt32)) &&& (nI 252645135)).toUInt32 >>> ((nI 8).toUInt32 &&& Int32.toUInt32 31)).toInt32)) + (((((((((nI x) - ((((nI x).toUInt32 >>> ((nI 1).toUInt32 &&& Int32.toUInt32 31)).toInt32) &&& (nI 1431655765))) &&& (nI 858993459)) + (((((nI x) - ((((nI x).toUInt32 >>> ((nI 1).toUInt32 &&& Int32.toUInt32 31)).toInt32) &&& (nI 1431655765))).toUInt32 >>> ((nI 2).toUInt32 &&& Int32.toUInt32 31)).toInt32) &&& (nI 858993459))) + ((((((nI x) - ((((nI x).toUInt32 >>> ((nI 1).toUInt32 &&& Int32.toUInt32 31)).toInt32) &&& (nI 1431655765))) &&& (nI 858993459)) + (((((nI x) - ((((nI x).toUInt32 >>> ((nI 1).toUInt32 &&& Int32.toUInt32 31)).toInt32) &&& (nI 1431655765))).toUInt32 >>> ((nI 2).toUInt32 &&& Int32.toUInt32 31)).toInt32) &&& (nI 858993459))).toUInt32 >>> ((nI 4).toUInt32 &&& Int32.toUInt32 31)).toInt32)) &&& (nI 252645135)) + ((((((((nI x) - ((((nI x).toUInt32 >>> ((nI 1).toUInt32 &&& Int32.toUInt32 31)).toInt32) &&& (nI 1431655765))) &&& (nI 858993459)) + (((((nI x) - ((((nI x).toUInt32 >>> ((nI 1).toUInt32 &&& Int32.toUInt32 31)).toInt32) &&& (nI 1431655765))).toUInt32 >>> ((nI 2).toUInt32 &&& Int32.toUInt32 31)).toInt32) &&& (nI 858993459))) + ((((((nI x) - ((((nI x).toUInt32 >>> ((nI 1).toUInt32 &&& Int32.toUInt32 31)).toInt32) &&& (nI 1431655765))) &&& (nI 858993459)) + (((((nI x) - ((((nI x).toUInt32 >>> ((nI 1).toUInt32 &&& Int32.toUInt32 31)).toInt32) &&& (nI 1431655765))).toUInt32 >>> ((nI 2).toUInt32 &&& Int32.toUInt32 31)).toInt32) &&& (nI 858993459))).toUInt32 >>> ((nI 4).toUInt32 &&& Int32.toUInt32 31)).toInt32)) &&& (nI 252645135)).toUInt32 >>> ((nI 8).toUInt32 &&& Int32.toUInt32 31)).toInt32)).toUInt32 >>> ((nI 16).toUInt32 &&& Int32.toUInt32 31)).toInt32)))]) C dJ6_bitCount_0f7a4_47 rfl (by decide) rfl rfl ?_
  refine g_iload_n (pc' := 49) C 0 dJ6_bitCount_0f7a4_48 rfl rfl rfl ?_
  refine g_bipush (pc' := 51) (v := nI 63) C dJ6_bitCount_0f7a4_49 (by decide) rfl ?_
  refine g_iand (pc' := 52) (v := ((((((((nI x) - ((((nI x).toUInt32 >>> ((nI 1).toUInt32 &&& Int32.toUInt32 31)).toInt32) &&& (nI 1431655765))) &&& (nI 858993459)) + (((((nI x) - ((((nI x).toUInt32 >>> ((nI 1).toUInt32 &&& Int32.toUInt32 31)).toInt32) &&& (nI 1431655765))).toUInt32 >>> ((nI 2).toUInt32 &&& Int32.toUInt32 31)).toInt32) &&& (nI 858993459))) + ((((((nI x) - ((((nI x).toUInt32 >>> ((nI 1).toUInt32 &&& Int32.toUInt32 31)).toInt32) &&& (nI 1431655765))) &&& (nI 858993459)) + (((((nI x) - ((((nI x).toUInt32 >>> ((nI 1).toUInt32 &&& Int32.toUInt32 31)).toInt32) &&& (nI 1431655765))).toUInt32 >>> ((nI 2).toUInt32 &&& Int32.toUInt32 31)).toInt32) &&& (nI 858993459))).toUInt32 >>> ((nI 4).toUInt32 &&& Int32.toUInt32 31)).toInt32)) &&& (nI 252645135)) + ((((((((nI x) - ((((nI x).toUInt32 >>> ((nI 1).toUInt32 &&& Int32.toUInt32 31)).toInt32) &&& (nI 1431655765))) &&& (nI 858993459)) + (((((nI x) - ((((nI x).toUInt32 >>> ((nI 1).toUInt32 &&& Int32.toUInt32 31)).toInt32) &&& (nI 1431655765))).toUInt32 >>> ((nI 2).toUInt32 &&& Int32.toUInt32 31)).toInt32) &&& (nI 858993459))) + ((((((nI x) - ((((nI x).toUInt32 >>> ((nI 1).toUInt32 &&& Int32.toUInt32 31)).toInt32) &&& (nI 1431655765))) &&& (nI 858993459)) + (((((nI x) - ((((nI x).toUInt32 >>> ((nI 1).toUInt32 &&& Int32.toUInt32 31)).toInt32) &&& (nI 1431655765))).toUInt32 >>> ((nI 2).toUInt32 &&& Int32.toUInt32 31)).toInt32) &&& (nI 858993459))).toUInt32 >>> ((nI 4).toUInt32 &&& Int32.toUInt32 31)).toInt32)) &&& (nI 252645135)).toUInt32 >>> ((nI 8).toUInt32 &&& Int32.toUInt32 31)).toInt32)) + (((((((((nI x) - ((((nI x).toUInt32 >>> ((nI 1).toUInt32 &&& Int32.toUInt32 31)).toInt32) &&& (nI 1431655765))) &&& (nI 858993459)) + (((((nI x) - ((((nI x).toUInt32 >>> ((nI 1).toUInt32 &&& Int32.toUInt32 31)).toInt32) &&& (nI 1431655765))).toUInt32 >>> ((nI 2).toUInt32 &&& Int32.toUInt32 31)).toInt32) &&& (nI 858993459))) + ((((((nI x) - ((((nI x).toUInt32 >>> ((nI 1).toUInt32 &&& Int32.toUInt32 31)).toInt32) &&& (nI 1431655765))) &&& (nI 858993459)) + (((((nI x) - ((((nI x).toUInt32 >>> ((nI 1).toUInt32 &&& Int32.toUInt32 31)).toInt32) &&& (nI 1431655765))).toUInt32 >>> ((nI 2).toUInt32 &&& Int32.toUInt32 31)).toInt32) &&& (nI 858993459))).toUInt32 >>> ((nI 4).toUInt32 &&& Int32.toUInt32 31)).toInt32)) &&& (nI 252645135)) + ((((((((nI x) - ((((nI x).toUInt32 >>> ((nI 1).toUInt32 &&& Int32.toUInt32 31)).toInt32) &&& (nI 1431655765))) &&& (nI 858993459)) + (((((nI x) - ((((nI x).toUInt32 >>> ((nI 1).toUInt32 &&& Int32.toUInt32 31)).toInt32) &&& (nI 1431655765))).toUInt32 >>> ((nI 2).toUInt32 &&& Int32.toUInt32 31)).toInt32) &&& (nI 858993459))) + ((((((nI x) - ((((nI x).toUInt32 >>> ((nI 1).toUInt32 &&& Int32.toUInt32 31)).toInt32) &&& (nI 1431655765))) &&& (nI 858993459)) + (((((nI x) - ((((nI x).toUInt32 >>> ((nI 1).toUInt32 &&& Int32.toUInt32 31)).toInt32) &&& (nI 1431655765))).toUInt32 >>> ((nI 2).toUInt32 &&& Int32.toUInt32 31)).toInt32) &&& (nI 858993459))).toUInt32 >>> ((nI 4).toUInt32 &&& Int32.toUInt32 31)).toInt32)) &&& (nI 252645135)).toUInt32 >>> ((nI 8).toUInt32 &&& Int32.toUInt32 31)).toInt32)).toUInt32 >>> ((nI 16).toUInt32 &&& Int32.toUInt32 31)).toInt32)) &&& (nI 63)) C dJ6_bitCount_0f7a4_51 rfl rfl ?_
  exact g_retP C rfl rfl (show ((((((((nI x) - ((((nI x).toUInt32 >>> ((nI 1).toUInt32 &&& Int32.toUInt32 31)).toInt32) &&& (nI 1431655765))) &&& (nI 858993459)) + (((((nI x) - ((((nI x).toUInt32 >>> ((nI 1).toUInt32 &&& Int32.toUInt32 31)).toInt32) &&& (nI 1431655765))).toUInt32 >>> ((nI 2).toUInt32 &&& Int32.toUInt32 31)).toInt32) &&& (nI 858993459))) + ((((((nI x) - ((((nI x).toUInt32 >>> ((nI 1).toUInt32 &&& Int32.toUInt32 31)).toInt32) &&& (nI 1431655765))) &&& (nI 858993459)) + (((((nI x) - ((((nI x).toUInt32 >>> ((nI 1).toUInt32 &&& Int32.toUInt32 31)).toInt32) &&& (nI 1431655765))).toUInt32 >>> ((nI 2).toUInt32 &&& Int32.toUInt32 31)).toInt32) &&& (nI 858993459))).toUInt32 >>> ((nI 4).toUInt32 &&& Int32.toUInt32 31)).toInt32)) &&& (nI 252645135)) + ((((((((nI x) - ((((nI x).toUInt32 >>> ((nI 1).toUInt32 &&& Int32.toUInt32 31)).toInt32) &&& (nI 1431655765))) &&& (nI 858993459)) + (((((nI x) - ((((nI x).toUInt32 >>> ((nI 1).toUInt32 &&& Int32.toUInt32 31)).toInt32) &&& (nI 1431655765))).toUInt32 >>> ((nI 2).toUInt32 &&& Int32.toUInt32 31)).toInt32) &&& (nI 858993459))) + ((((((nI x) - ((((nI x).toUInt32 >>> ((nI 1).toUInt32 &&& Int32.toUInt32 31)).toInt32) &&& (nI 1431655765))) &&& (nI 858993459)) + (((((nI x) - ((((nI x).toUInt32 >>> ((nI 1).toUInt32 &&& Int32.toUInt32 31)).toInt32) &&& (nI 1431655765))).toUInt32 >>> ((nI 2).toUInt32 &&& Int32.toUInt32 31)).toInt32) &&& (nI 858993459))).toUInt32 >>> ((nI 4).toUInt32 &&& Int32.toUInt32 31)).toInt32)) &&& (nI 252645135)).toUInt32 >>> ((nI 8).toUInt32 &&& Int32.toUInt32 31)).toInt32)) + (((((((((nI x) - ((((nI x).toUInt32 >>> ((nI 1).toUInt32 &&& Int32.toUInt32 31)).toInt32) &&& (nI 1431655765))) &&& (nI 858993459)) + (((((nI x) - ((((nI x).toUInt32 >>> ((nI 1).toUInt32 &&& Int32.toUInt32 31)).toInt32) &&& (nI 1431655765))).toUInt32 >>> ((nI 2).toUInt32 &&& Int32.toUInt32 31)).toInt32) &&& (nI 858993459))) + ((((((nI x) - ((((nI x).toUInt32 >>> ((nI 1).toUInt32 &&& Int32.toUInt32 31)).toInt32) &&& (nI 1431655765))) &&& (nI 858993459)) + (((((nI x) - ((((nI x).toUInt32 >>> ((nI 1).toUInt32 &&& Int32.toUInt32 31)).toInt32) &&& (nI 1431655765))).toUInt32 >>> ((nI 2).toUInt32 &&& Int32.toUInt32 31)).toInt32) &&& (nI 858993459))).toUInt32 >>> ((nI 4).toUInt32 &&& Int32.toUInt32 31)).toInt32)) &&& (nI 252645135)) + ((((((((nI x) - ((((nI x).toUInt32 >>> ((nI 1).toUInt32 &&& Int32.toUInt32 31)).toInt32) &&& (nI 1431655765))) &&& (nI 858993459)) + (((((nI x) - ((((nI x).toUInt32 >>> ((nI 1).toUInt32 &&& Int32.toUInt32 31)).toInt32) &&& (nI 1431655765))).toUInt32 >>> ((nI 2).toUInt32 &&& Int32.toUInt32 31)).toInt32) &&& (nI 858993459))) + ((((((nI x) - ((((nI x).toUInt32 >>> ((nI 1).toUInt32 &&& Int32.toUInt32 31)).toInt32) &&& (nI 1431655765))) &&& (nI 858993459)) + (((((nI x) - ((((nI x).toUInt32 >>> ((nI 1).toUInt32 &&& Int32.toUInt32 31)).toInt32) &&& (nI 1431655765))).toUInt32 >>> ((nI 2).toUInt32 &&& Int32.toUInt32 31)).toInt32) &&& (nI 858993459))).toUInt32 >>> ((nI 4).toUInt32 &&& Int32.toUInt32 31)).toInt32)) &&& (nI 252645135)).toUInt32 >>> ((nI 8).toUInt32 &&& Int32.toUInt32 31)).toInt32)).toUInt32 >>> ((nI 16).toUInt32 &&& Int32.toUInt32 31)).toInt32)) &&& (nI 63) = nI (bc6 x) by exact bc6_all x h1) dJ6_bitCount_0f7a4_52

set_option maxHeartbeats 4000000 in
set_option maxRecDepth 100000 in
theorem kX7_empty (l : Launch) (κ : KK) (q0 : Nat) (q1 : Nat) (q2 : Nat) (q3 : Nat) (cnt : Nat) : CMv l yX7_empty cX7_empty 1 none 0 0 0 κ [.ref q0] [(q0, .inr (6, [.ref q1, .ref q2, .ref q3, .int (nI cnt)]))] (fun (vw_ : va_W) => vw_ = [(q0, .inr (6, [.ref q1, .ref q2, .ref q3, .int (nI 0)]))]) := by
  refine cmv_of RX7 rfl (by decide) (Nat.le_of_ble_eq_true rfl) ?_
  intro p e s m below meth c A C hAe hA hini
  refine g_lv (lv' := [(0, .ref q0)]) [0] rfl ?_
  refine g_aload_n (pc' := 1) C 0 dX7_empty_0 rfl rfl rfl ?_
  refine g_iconst (pc' := 2) (v := nI 0) C dX7_empty_1 (by decide) rfl ?_
  refine g_put (pc' := 5) (ws' := [(q0, .inr (6, [.ref q1, .ref q2, .ref q3, .int (nI 0)]))]) C fp_RX7_21_6 0 rfl rfl rfl (Nat.le_of_ble_eq_true rfl) rfl dX7_empty_2 rfl ?_
  exact g_retMv C hAe rfl (Nat.le_of_ble_eq_true rfl) (Nat.le_of_ble_eq_true rfl) (rfl) dX7_empty_5

set_option maxHeartbeats 4000000 in
set_option maxRecDepth 100000 in
theorem kX7_put (l : Launch) (κ : KK) (q0 : Nat) (q1 : Nat) (q2 : Nat) (q3 : Nat) (cnt : Nat) (fn : Nat → Nat) (fp : Nat → Nat) (fr : Nat → Nat) (en : Nat) (s9 : Nat) (v : Nat) (hc : cnt < 120) : CMv l yX7_put cX7_put 4 none 0 0 0 κ [.ref q0, .int (nI en), .int (nI s9), .int (nI v)] [(q0, .inr (6, [.ref q1, .ref q2, .ref q3, .int (nI cnt)])), (q1, .inl (κ.2 0, 120, .inl (nA fn))), (q2, .inl (κ.2 0, 120, .inl (nA fp))), (q3, .inl (κ.2 0, 120, .inl (nA fr)))] (fun (vw_ : va_W) => vw_ = [(q0, .inr (6, [.ref q1, .ref q2, .ref q3, .int (nI (cnt + 1))])), (q1, .inl (κ.2 0, 120, .inl (nA (va_up fn cnt en)))), (q2, .inl (κ.2 0, 120, .inl (nA (va_up fp cnt s9)))), (q3, .inl (κ.2 0, 120, .inl (nA (va_up fr cnt v))))]) := by
  refine cmv_of RX7 rfl (by decide) (Nat.le_of_ble_eq_true rfl) ?_
  intro p e s m below meth c A C hAe hA hini
  refine g_lv (lv' := [(0, .ref q0), (1, .int (nI en)), (2, .int (nI s9)), (3, .int (nI v))]) [0, 1, 2, 3] rfl ?_
  refine g_aload_n (pc' := 1) C 0 dX7_put_0 rfl rfl rfl ?_
  refine g_get (pc' := 4) C fl_RX7_21_6 0 rfl rfl dX7_put_1 rfl ?_
  refine g_bipush (pc' := 6) (v := nI 120) C dX7_put_4 (by decide) rfl ?_
  refine g_icmp_geN (pc' := 9) (tgt := 49) C (by first | assumption | omega) (by first | assumption | omega) dX7_put_6 (by decide) rfl (fun c_6_1 => absurd c_6_1 (by omega)) (fun c_6_1 => ?_)
  refine g_aload_n (pc' := 10) C 0 dX7_put_9 rfl rfl rfl ?_
  refine g_get (pc' := 13) C fl_RX7_9_6 0 rfl rfl dX7_put_10 rfl ?_
  refine g_aload_n (pc' := 14) C 0 dX7_put_13 rfl rfl rfl ?_
  refine g_get (pc' := 17) C fl_RX7_21_6 0 rfl rfl dX7_put_14 rfl ?_
  refine g_iload_n (pc' := 18) C 1 dX7_put_17 rfl rfl rfl ?_
  refine g_iastN (pc' := 19) (ws' := [(q0, .inr (6, [.ref q1, .ref q2, .ref q3, .int (nI cnt)])), (q1, .inl (κ.2 0, 120, .inl (nA (va_up fn cnt en)))), (q2, .inl (κ.2 0, 120, .inl (nA fp))), (q3, .inl (κ.2 0, 120, .inl (nA fr)))]) C 1 rfl cnt (by first | assumption | omega) (by decide) rfl dX7_put_18 rfl ?_
  refine g_aload_n (pc' := 20) C 0 dX7_put_19 rfl rfl rfl ?_
  refine g_get (pc' := 23) C fl_RX7_15_6 0 rfl rfl dX7_put_20 rfl ?_
  refine g_aload_n (pc' := 24) C 0 dX7_put_23 rfl rfl rfl ?_
  refine g_get (pc' := 27) C fl_RX7_21_6 0 rfl rfl dX7_put_24 rfl ?_
  refine g_iload_n (pc' := 28) C 2 dX7_put_27 rfl rfl rfl ?_
  refine g_iastN (pc' := 29) (ws' := [(q0, .inr (6, [.ref q1, .ref q2, .ref q3, .int (nI cnt)])), (q1, .inl (κ.2 0, 120, .inl (nA (va_up fn cnt en)))), (q2, .inl (κ.2 0, 120, .inl (nA (va_up fp cnt s9)))), (q3, .inl (κ.2 0, 120, .inl (nA fr)))]) C 2 rfl cnt (by first | assumption | omega) (by decide) rfl dX7_put_28 rfl ?_
  refine g_aload_n (pc' := 30) C 0 dX7_put_29 rfl rfl rfl ?_
  refine g_get (pc' := 33) C fl_RX7_18_6 0 rfl rfl dX7_put_30 rfl ?_
  refine g_aload_n (pc' := 34) C 0 dX7_put_33 rfl rfl rfl ?_
  refine g_get (pc' := 37) C fl_RX7_21_6 0 rfl rfl dX7_put_34 rfl ?_
  refine g_iload_n (pc' := 38) C 3 dX7_put_37 rfl rfl rfl ?_
  refine g_iastN (pc' := 39) (ws' := [(q0, .inr (6, [.ref q1, .ref q2, .ref q3, .int (nI cnt)])), (q1, .inl (κ.2 0, 120, .inl (nA (va_up fn cnt en)))), (q2, .inl (κ.2 0, 120, .inl (nA (va_up fp cnt s9)))), (q3, .inl (κ.2 0, 120, .inl (nA (va_up fr cnt v))))]) C 3 rfl cnt (by first | assumption | omega) (by decide) rfl dX7_put_38 rfl ?_
  refine g_aload_n (pc' := 40) C 0 dX7_put_39 rfl rfl rfl ?_
  refine g_dup (pc' := 41) C dX7_put_40 rfl rfl ?_
  refine g_get (pc' := 44) C fl_RX7_21_6 0 rfl rfl dX7_put_41 rfl ?_
  refine g_iconst (pc' := 45) (v := nI 1) C dX7_put_44 (by decide) rfl ?_
  refine g_iadd (pc' := 46) (v := nI (cnt + 1)) C dX7_put_45 (nI_add _ _) rfl ?_
  refine g_put (pc' := 49) (ws' := [(q0, .inr (6, [.ref q1, .ref q2, .ref q3, .int (nI (cnt + 1))])), (q1, .inl (κ.2 0, 120, .inl (nA (va_up fn cnt en)))), (q2, .inl (κ.2 0, 120, .inl (nA (va_up fp cnt s9)))), (q3, .inl (κ.2 0, 120, .inl (nA (va_up fr cnt v))))]) C fp_RX7_21_6 0 rfl rfl rfl (Nat.le_of_ble_eq_true rfl) rfl dX7_put_46 rfl ?_
  exact g_retMv C hAe rfl (Nat.le_of_ble_eq_true rfl) (Nat.le_of_ble_eq_true rfl) (rfl) dX7_put_49

set_option maxHeartbeats 4000000 in
set_option maxRecDepth 100000 in
theorem kX7_has (l : Launch) (κ : KK) (q0 : Nat) (q1 : Nat) (q2 : Nat) (q3 : Nat) (cnt : Nat) (i : Nat) (hc : cnt ≤ 120) (hi : i < 2 ^ 31) : CP l yX7_has cX7_has 2 (some .boolean) 0 κ [.ref q0, .int (nI i)] [(q0, .inr (6, [.ref q1, .ref q2, .ref q3, .int (nI cnt)]))] (fun vr_ => vr_ = b2i (decide (i < cnt))) := by
  refine cp_of RX7 rfl (by decide) (Nat.le_of_ble_eq_true rfl) ?_
  intro p e s m below meth c C
  refine g_lv (lv' := [(0, .ref q0), (1, .int (nI i))]) [0, 1] rfl ?_
  refine g_iload_n (pc' := 1) C 1 dX7_has_0 rfl rfl rfl ?_
  refine g_if_ltN (pc' := 4) (tgt := 22) C (by first | assumption | omega) dX7_has_1 (by decide) rfl ?_
  refine g_iload_n (pc' := 5) C 1 dX7_has_4 rfl rfl rfl ?_
  refine g_aload_n (pc' := 6) C 0 dX7_has_5 rfl rfl rfl ?_
  refine g_get (pc' := 9) C fl_RX7_21_6 0 rfl rfl dX7_has_6 rfl ?_
  refine g_icmp_geN (pc' := 12) (tgt := 22) C (by first | assumption | omega) (by first | assumption | omega) dX7_has_9 (by decide) rfl (fun c_9_2 => ?_) (fun c_9_2 => ?_)
  · refine g_iconst (pc' := 23) (v := nI 0) C dX7_has_22 (by decide) rfl ?_
    exact g_retP C rfl rfl (show nI 0 = b2i (decide (i < cnt)) by exact bF (by simp <;> omega)) dX7_has_23
  · refine g_iload_n (pc' := 13) C 1 dX7_has_12 rfl rfl rfl ?_
    refine g_bipush (pc' := 15) (v := nI 120) C dX7_has_13 (by decide) rfl ?_
    refine g_icmp_geN (pc' := 18) (tgt := 22) C (by first | assumption | omega) (by first | assumption | omega) dX7_has_15 (by decide) rfl (fun c_15_3 => ?_) (fun c_15_3 => ?_)
    · refine g_iconst (pc' := 23) (v := nI 0) C dX7_has_22 (by decide) rfl ?_
      exact g_retP C rfl rfl (show nI 0 = b2i (decide (i < cnt)) by exact bF (by simp <;> omega)) dX7_has_23
    · refine g_iconst (pc' := 19) (v := nI 1) C dX7_has_18 (by decide) rfl ?_
      refine g_goto (tgt := 23) C dX7_has_19 (by decide) ?_
      exact g_retP C rfl rfl (show nI 1 = b2i (decide (i < cnt)) by exact bT (by simp <;> omega)) dX7_has_23

set_option maxHeartbeats 4000000 in
set_option maxRecDepth 100000 in
theorem kX7_has_m (l : Launch) (κ : KK) (q0 : Nat) (q1 : Nat) (q2 : Nat) (q3 : Nat) (cnt : Nat) : CP l yX7_has cX7_has 2 (some .boolean) 0 κ [.ref q0, .int (-1)] [(q0, .inr (6, [.ref q1, .ref q2, .ref q3, .int (nI cnt)]))] (fun vr_ => vr_ = b2i false) := by
  refine cp_of RX7 rfl (by decide) (Nat.le_of_ble_eq_true rfl) ?_
  intro p e s m below meth c C
  refine g_lv (lv' := [(0, .ref q0), (1, .int (-1))]) [0, 1] rfl ?_
  refine g_iload_n (pc' := 1) C 1 dX7_has_0 rfl rfl rfl ?_
  refine g_if_lt (pc' := 4) (tgt := 22) C dX7_has_1 (by decide) rfl (fun c_1_1 => ?_) (fun c_1_1 => absurd c_1_1 (by decide))
  refine g_iconst (pc' := 23) (v := nI 0) C dX7_has_22 (by decide) rfl ?_
  exact g_retP C rfl rfl (show nI 0 = b2i false by exact bF (by simp <;> omega)) dX7_has_23

set_option maxHeartbeats 4000000 in
set_option maxRecDepth 100000 in
theorem kX7_entryOf (l : Launch) (κ : KK) (q0 : Nat) (q1 : Nat) (q2 : Nat) (q3 : Nat) (cnt : Nat) (fn : Nat → Nat) (i : Nat) (hc : cnt ≤ 120) (hi : i < cnt) : CP l yX7_entryOf cX7_entryOf 2 (some .int) 1 κ [.ref q0, .int (nI i)] [(q0, .inr (6, [.ref q1, .ref q2, .ref q3, .int (nI cnt)])), (q1, .inl (κ.2 0, 120, .inl (nA fn)))] (fun vr_ => vr_ = nI (fn i)) := by
  refine cp_of RX7 rfl (by decide) (Nat.le_of_ble_eq_true rfl) ?_
  intro p e s m below meth c C
  refine g_lv (lv' := [(0, .ref q0), (1, .int (nI i))]) [0, 1] rfl ?_
  refine g_aload_n (pc' := 1) C 0 dX7_entryOf_0 rfl rfl rfl ?_
  refine g_iload_n (pc' := 2) C 1 dX7_entryOf_1 rfl rfl rfl ?_
  refine g_callP (pc' := 5) C lk_RX7_25 (kX7_has l κ q0 q1 q2 q3 cnt i (by first | assumption | omega) (by first | assumption | omega)) 0 rfl rfl [0] rfl rfl (Nat.le_of_ble_eq_true rfl) ⟨Nat.le_of_ble_eq_true rfl, Nat.le_of_ble_eq_true rfl⟩ ⟨Nat.le_of_ble_eq_true rfl, Nat.le_of_ble_eq_true rfl⟩ rfl dX7_entryOf_2 rfl (fun r_2_1 h_2_1 => ?_)
  obtain rfl : r_2_1 = b2i (decide (i < cnt)) := h_2_1
  refine g_if_eqB (pc' := 8) (tgt := 17) C dX7_entryOf_5 (by decide) rfl (fun c_5_2 => absurd c_5_2 (by simp [hi])) (fun c_5_2 => ?_)
  refine g_aload_n (pc' := 9) C 0 dX7_entryOf_8 rfl rfl rfl ?_
  refine g_get (pc' := 12) C fl_RX7_9_6 0 rfl rfl dX7_entryOf_9 rfl ?_
  refine g_iload_n (pc' := 13) C 1 dX7_entryOf_12 rfl rfl rfl ?_
  refine g_ialdN (pc' := 14) C 1 (f := fn) rfl i (by first | assumption | omega) (by decide) dX7_entryOf_13 rfl ?_
  refine g_goto (tgt := 18) C dX7_entryOf_14 (by decide) ?_
  exact g_retP C rfl rfl (show nI (fn i) = nI (fn i) by rfl) dX7_entryOf_18

set_option maxHeartbeats 4000000 in
set_option maxRecDepth 100000 in
theorem kX7_entryOf_m (l : Launch) (κ : KK) (q0 : Nat) (q1 : Nat) (q2 : Nat) (q3 : Nat) (cnt : Nat) : CP l yX7_entryOf cX7_entryOf 2 (some .int) 1 κ [.ref q0, .int (-1)] [(q0, .inr (6, [.ref q1, .ref q2, .ref q3, .int (nI cnt)]))] (fun vr_ => vr_ = (-1)) := by
  refine cp_of RX7 rfl (by decide) (Nat.le_of_ble_eq_true rfl) ?_
  intro p e s m below meth c C
  refine g_lv (lv' := [(0, .ref q0), (1, .int (-1))]) [0, 1] rfl ?_
  refine g_aload_n (pc' := 1) C 0 dX7_entryOf_0 rfl rfl rfl ?_
  refine g_iload_n (pc' := 2) C 1 dX7_entryOf_1 rfl rfl rfl ?_
  refine g_callP (pc' := 5) C lk_RX7_25 (kX7_has_m l κ q0 q1 q2 q3 cnt) 0 rfl rfl [0] rfl rfl (Nat.le_of_ble_eq_true rfl) ⟨Nat.le_of_ble_eq_true rfl, Nat.le_of_ble_eq_true rfl⟩ ⟨Nat.le_of_ble_eq_true rfl, Nat.le_of_ble_eq_true rfl⟩ rfl dX7_entryOf_2 rfl (fun r_2_1 h_2_1 => ?_)
  obtain rfl : r_2_1 = b2i false := h_2_1
  refine g_if_eqB (pc' := 8) (tgt := 17) C dX7_entryOf_5 (by decide) rfl (fun _ => ?_) (fun z => absurd z (by decide))
  refine g_iconst (pc' := 18) (v := (-1)) C dX7_entryOf_17 (by decide) rfl ?_
  exact g_retP C rfl rfl (show (-1) = (-1) by rfl) dX7_entryOf_18

set_option maxHeartbeats 4000000 in
set_option maxRecDepth 100000 in
theorem kX7_placesOf (l : Launch) (κ : KK) (q0 : Nat) (q1 : Nat) (q2 : Nat) (q3 : Nat) (cnt : Nat) (fp : Nat → Nat) (i : Nat) (hc : cnt ≤ 120) (hi : i < cnt) : CP l yX7_placesOf cX7_placesOf 2 (some .int) 1 κ [.ref q0, .int (nI i)] [(q0, .inr (6, [.ref q1, .ref q2, .ref q3, .int (nI cnt)])), (q2, .inl (κ.2 0, 120, .inl (nA fp)))] (fun vr_ => vr_ = nI (fp i)) := by
  refine cp_of RX7 rfl (by decide) (Nat.le_of_ble_eq_true rfl) ?_
  intro p e s m below meth c C
  refine g_lv (lv' := [(0, .ref q0), (1, .int (nI i))]) [0, 1] rfl ?_
  refine g_aload_n (pc' := 1) C 0 dX7_placesOf_0 rfl rfl rfl ?_
  refine g_iload_n (pc' := 2) C 1 dX7_placesOf_1 rfl rfl rfl ?_
  refine g_callP (pc' := 5) C lk_RX7_25 (kX7_has l κ q0 q1 q2 q3 cnt i (by first | assumption | omega) (by first | assumption | omega)) 0 rfl rfl [0] rfl rfl (Nat.le_of_ble_eq_true rfl) ⟨Nat.le_of_ble_eq_true rfl, Nat.le_of_ble_eq_true rfl⟩ ⟨Nat.le_of_ble_eq_true rfl, Nat.le_of_ble_eq_true rfl⟩ rfl dX7_placesOf_2 rfl (fun r_2_1 h_2_1 => ?_)
  obtain rfl : r_2_1 = b2i (decide (i < cnt)) := h_2_1
  refine g_if_eqB (pc' := 8) (tgt := 17) C dX7_placesOf_5 (by decide) rfl (fun c_5_2 => absurd c_5_2 (by simp [hi])) (fun c_5_2 => ?_)
  refine g_aload_n (pc' := 9) C 0 dX7_placesOf_8 rfl rfl rfl ?_
  refine g_get (pc' := 12) C fl_RX7_15_6 0 rfl rfl dX7_placesOf_9 rfl ?_
  refine g_iload_n (pc' := 13) C 1 dX7_placesOf_12 rfl rfl rfl ?_
  refine g_ialdN (pc' := 14) C 1 (f := fp) rfl i (by first | assumption | omega) (by decide) dX7_placesOf_13 rfl ?_
  refine g_goto (tgt := 18) C dX7_placesOf_14 (by decide) ?_
  exact g_retP C rfl rfl (show nI (fp i) = nI (fp i) by rfl) dX7_placesOf_18

set_option maxHeartbeats 4000000 in
set_option maxRecDepth 100000 in
theorem kX7_placesOf_m (l : Launch) (κ : KK) (q0 : Nat) (q1 : Nat) (q2 : Nat) (q3 : Nat) (cnt : Nat) : CP l yX7_placesOf cX7_placesOf 2 (some .int) 1 κ [.ref q0, .int (-1)] [(q0, .inr (6, [.ref q1, .ref q2, .ref q3, .int (nI cnt)]))] (fun vr_ => vr_ = nI 0) := by
  refine cp_of RX7 rfl (by decide) (Nat.le_of_ble_eq_true rfl) ?_
  intro p e s m below meth c C
  refine g_lv (lv' := [(0, .ref q0), (1, .int (-1))]) [0, 1] rfl ?_
  refine g_aload_n (pc' := 1) C 0 dX7_placesOf_0 rfl rfl rfl ?_
  refine g_iload_n (pc' := 2) C 1 dX7_placesOf_1 rfl rfl rfl ?_
  refine g_callP (pc' := 5) C lk_RX7_25 (kX7_has_m l κ q0 q1 q2 q3 cnt) 0 rfl rfl [0] rfl rfl (Nat.le_of_ble_eq_true rfl) ⟨Nat.le_of_ble_eq_true rfl, Nat.le_of_ble_eq_true rfl⟩ ⟨Nat.le_of_ble_eq_true rfl, Nat.le_of_ble_eq_true rfl⟩ rfl dX7_placesOf_2 rfl (fun r_2_1 h_2_1 => ?_)
  obtain rfl : r_2_1 = b2i false := h_2_1
  refine g_if_eqB (pc' := 8) (tgt := 17) C dX7_placesOf_5 (by decide) rfl (fun _ => ?_) (fun z => absurd z (by decide))
  refine g_iconst (pc' := 18) (v := nI 0) C dX7_placesOf_17 (by decide) rfl ?_
  exact g_retP C rfl rfl (show nI 0 = nI 0 by rfl) dX7_placesOf_18

set_option maxHeartbeats 4000000 in
set_option maxRecDepth 100000 in
theorem kX7_priceOf (l : Launch) (κ : KK) (q0 : Nat) (q1 : Nat) (q2 : Nat) (q3 : Nat) (cnt : Nat) (fr : Nat → Nat) (i : Nat) (hc : cnt ≤ 120) (hi : i < cnt) : CP l yX7_priceOf cX7_priceOf 2 (some .int) 1 κ [.ref q0, .int (nI i)] [(q0, .inr (6, [.ref q1, .ref q2, .ref q3, .int (nI cnt)])), (q3, .inl (κ.2 0, 120, .inl (nA fr)))] (fun vr_ => vr_ = nI (fr i)) := by
  refine cp_of RX7 rfl (by decide) (Nat.le_of_ble_eq_true rfl) ?_
  intro p e s m below meth c C
  refine g_lv (lv' := [(0, .ref q0), (1, .int (nI i))]) [0, 1] rfl ?_
  refine g_aload_n (pc' := 1) C 0 dX7_priceOf_0 rfl rfl rfl ?_
  refine g_iload_n (pc' := 2) C 1 dX7_priceOf_1 rfl rfl rfl ?_
  refine g_callP (pc' := 5) C lk_RX7_25 (kX7_has l κ q0 q1 q2 q3 cnt i (by first | assumption | omega) (by first | assumption | omega)) 0 rfl rfl [0] rfl rfl (Nat.le_of_ble_eq_true rfl) ⟨Nat.le_of_ble_eq_true rfl, Nat.le_of_ble_eq_true rfl⟩ ⟨Nat.le_of_ble_eq_true rfl, Nat.le_of_ble_eq_true rfl⟩ rfl dX7_priceOf_2 rfl (fun r_2_1 h_2_1 => ?_)
  obtain rfl : r_2_1 = b2i (decide (i < cnt)) := h_2_1
  refine g_if_eqB (pc' := 8) (tgt := 17) C dX7_priceOf_5 (by decide) rfl (fun c_5_2 => absurd c_5_2 (by simp [hi])) (fun c_5_2 => ?_)
  refine g_aload_n (pc' := 9) C 0 dX7_priceOf_8 rfl rfl rfl ?_
  refine g_get (pc' := 12) C fl_RX7_18_6 0 rfl rfl dX7_priceOf_9 rfl ?_
  refine g_iload_n (pc' := 13) C 1 dX7_priceOf_12 rfl rfl rfl ?_
  refine g_ialdN (pc' := 14) C 1 (f := fr) rfl i (by first | assumption | omega) (by decide) dX7_priceOf_13 rfl ?_
  refine g_goto (tgt := 18) C dX7_priceOf_14 (by decide) ?_
  exact g_retP C rfl rfl (show nI (fr i) = nI (fr i) by rfl) dX7_priceOf_18

set_option maxHeartbeats 4000000 in
set_option maxRecDepth 100000 in
theorem kX7_priceOf_m (l : Launch) (κ : KK) (q0 : Nat) (q1 : Nat) (q2 : Nat) (q3 : Nat) (cnt : Nat) : CP l yX7_priceOf cX7_priceOf 2 (some .int) 1 κ [.ref q0, .int (-1)] [(q0, .inr (6, [.ref q1, .ref q2, .ref q3, .int (nI cnt)]))] (fun vr_ => vr_ = nI 0) := by
  refine cp_of RX7 rfl (by decide) (Nat.le_of_ble_eq_true rfl) ?_
  intro p e s m below meth c C
  refine g_lv (lv' := [(0, .ref q0), (1, .int (-1))]) [0, 1] rfl ?_
  refine g_aload_n (pc' := 1) C 0 dX7_priceOf_0 rfl rfl rfl ?_
  refine g_iload_n (pc' := 2) C 1 dX7_priceOf_1 rfl rfl rfl ?_
  refine g_callP (pc' := 5) C lk_RX7_25 (kX7_has_m l κ q0 q1 q2 q3 cnt) 0 rfl rfl [0] rfl rfl (Nat.le_of_ble_eq_true rfl) ⟨Nat.le_of_ble_eq_true rfl, Nat.le_of_ble_eq_true rfl⟩ ⟨Nat.le_of_ble_eq_true rfl, Nat.le_of_ble_eq_true rfl⟩ rfl dX7_priceOf_2 rfl (fun r_2_1 h_2_1 => ?_)
  obtain rfl : r_2_1 = b2i false := h_2_1
  refine g_if_eqB (pc' := 8) (tgt := 17) C dX7_priceOf_5 (by decide) rfl (fun _ => ?_) (fun z => absurd z (by decide))
  refine g_iconst (pc' := 18) (v := nI 0) C dX7_priceOf_17 (by decide) rfl ?_
  exact g_retP C rfl rfl (show nI 0 = nI 0 by rfl) dX7_priceOf_18

set_option maxHeartbeats 4000000 in
set_option maxRecDepth 100000 in
theorem kX7_fitsFrom (l : Launch) (κ : KK) (q0 : Nat) (q1 : Nat) (q2 : Nat) (q3 : Nat) (cnt : Nat) (fp : Nat → Nat) (i : Nat) (pl : Nat) (tk : Nat) (hc : cnt ≤ 120) (hi : i < cnt) (h0 : 0 < fp i) (h6 : fp i < 64) (hp : pl < 64) : CP l yX7_fitsFrom cX7_fitsFrom 5 (some .boolean) 2 κ [.ref q0, .int (nI i), .int (nI pl), .int (nI tk)] [(q0, .inr (6, [.ref q1, .ref q2, .ref q3, .int (nI cnt)])), (q2, .inl (κ.2 0, 120, .inl (nA fp)))] (fun vr_ => vr_ = b2i (fits (fp i) pl tk)) := by
  refine cp_of RX7 rfl (by decide) (Nat.le_of_ble_eq_true rfl) ?_
  intro p e s m below meth c C
  refine g_lv (lv' := [(0, .ref q0), (1, .int (nI i)), (2, .int (nI pl)), (3, .int (nI tk))]) [0, 1, 2, 3] rfl ?_
  have ht := tz6_lt (fp i) h6 h0
  have ha : fp i &&& tk ≤ fp i := Nat.and_le_left
  refine g_aload_n (pc' := 1) C 0 dX7_fitsFrom_0 rfl rfl rfl ?_
  refine g_iload_n (pc' := 2) C 1 dX7_fitsFrom_1 rfl rfl rfl ?_
  refine g_callP (pc' := 5) C lk_RX7_29 (kX7_placesOf l κ q0 q1 q2 q3 cnt fp i (by first | assumption | omega) (by first | assumption | omega)) 0 rfl rfl [0, 1] rfl rfl (Nat.le_of_ble_eq_true rfl) ⟨Nat.le_of_ble_eq_true rfl, Nat.le_of_ble_eq_true rfl⟩ ⟨Nat.le_of_ble_eq_true rfl, Nat.le_of_ble_eq_true rfl⟩ rfl dX7_fitsFrom_2 rfl (fun r_2_1 h_2_1 => ?_)
  obtain rfl : r_2_1 = nI (fp i) := h_2_1
  refine g_istore (pc' := 7) (lv' := [(4, .int (nI (fp i))), (0, .ref q0), (1, .int (nI i)), (2, .int (nI pl)), (3, .int (nI tk))]) C dX7_fitsFrom_5 (by decide) rfl rfl ?_
  refine g_iload (pc' := 9) C 0 dX7_fitsFrom_7 rfl rfl ?_
  refine g_callPS (pc' := 12) C lk_RX7_33 (kJ6_numberOfTrailingZeros_0f7a4 l κ (fp i) (by first | assumption | omega) (by first | assumption | omega)) [] rfl rfl (Nat.le_of_ble_eq_true rfl) ⟨Nat.le_of_ble_eq_true rfl, Nat.le_of_ble_eq_true rfl⟩ ⟨Nat.le_of_ble_eq_true rfl, Nat.le_of_ble_eq_true rfl⟩ rfl dX7_fitsFrom_9 rfl (fun r_9_2 h_9_2 => ?_)
  obtain rfl : r_9_2 = nI (tz6 (fp i)) := h_9_2
  refine g_iload_n (pc' := 13) C 3 dX7_fitsFrom_12 rfl rfl rfl ?_
  refine g_icmp_neN (pc' := 16) (tgt := 27) C (by first | assumption | omega) (by first | assumption | omega) dX7_fitsFrom_13 (by decide) rfl (fun c_13_3 => ?_) (fun c_13_3 => ?_)
  · refine g_iconst (pc' := 28) (v := nI 0) C dX7_fitsFrom_27 (by decide) rfl ?_
    exact g_retP C rfl rfl (show nI 0 = b2i (fits (fp i) pl tk) by exact bF (by simp [fits, *])) dX7_fitsFrom_28
  · refine g_iload (pc' := 18) C 0 dX7_fitsFrom_16 rfl rfl ?_
    refine g_iload_n (pc' := 19) C 4 dX7_fitsFrom_18 rfl rfl rfl ?_
    refine g_iand (pc' := 20) (v := nI ((fp i) &&& tk)) C dX7_fitsFrom_19 (nI_and _ _) rfl ?_
    refine g_if_neN (pc' := 23) (tgt := 27) C (by first | assumption | omega) dX7_fitsFrom_20 (by decide) rfl (fun c_20_4 => ?_) (fun c_20_4 => ?_)
    · refine g_iconst (pc' := 28) (v := nI 0) C dX7_fitsFrom_27 (by decide) rfl ?_
      exact g_retP C rfl rfl (show nI 0 = b2i (fits (fp i) pl tk) by exact bF (by simp [fits, *])) dX7_fitsFrom_28
    · refine g_iconst (pc' := 24) (v := nI 1) C dX7_fitsFrom_23 (by decide) rfl ?_
      refine g_goto (tgt := 28) C dX7_fitsFrom_24 (by decide) ?_
      exact g_retP C rfl rfl (show nI 1 = b2i (fits (fp i) pl tk) by exact bT (by simp [fits, *])) dX7_fitsFrom_28
