section LAW
variable {p : Program} {l : Launch} {e : Env} {s : State} {m : MethodId} {below : List Frame} {meth : Method} {c : Code} {κ : KK} {b L x0 t0 c0 v0 d0 : Nat} {xs : Nat → Int32}
set_option maxHeartbeats 4000000 in
set_option maxRecDepth 100000 in
theorem law_128 (hlc : LC l p s m meth c κ b L xs) (i : Nat) (hi : i < 70) {wx : va_W} {n : Nat} {fk : Nat → Nat} {fs : Nat → Nat} {len : Nat} {fw : Nat → Nat} {dr : Nat → Option Nat} {mc : Nat} {th : Nat → Bool} {rc : Nat → Option Nat} {ck : Nat → Nat} {pm : Nat → Nat} {ep : Nat → Nat → Option Nat} {ba : Nat} {dy : Nat} {iv : Nat → Nat → Nat} {dv : Nat → Nat → Nat} (HRW : RW n fk fs) (HSW : SW len fw) (HDW : DW 0 dr) (HTW : TW mc th rc ck pm ep) (HB : ba ≤ 50) (HK : KW iv dv) (HI : IW iv) (hdy : dy ≤ 100 * i) (HC : CW mc iv) (HX : LX κ x0 n fk fs len fw 0 dr mc th rc ck pm ep ba dy iv dv wx) (KN : NXT p l e s m below meth c κ b x0 t0 c0 v0 d0 i) {w9 : Int32} {h9 e9 r9 : Nat} (hh : h9 < 16) (hr9 : r9 < 3) (he : 0 < mc → e9 < mc) : G p l e room_1 s m #[Value.ref b] below meth c κ 23 (JM (fun q => s.heap.size ≤ q) s) ([(t0, .inl (κ.2 0, 8, .inl (nA (bN th)))), (c0, .inl (κ.2 0, 8, .inl (nA ck))), (v0, .inl (κ.2 0, 24, .inl (nA (fl8 iv)))), (d0, .inl (κ.2 0, 24, .inl (nA (fl8 dv))))] ++ wx) (100 + 200 * i) (2000 + 2000 * i) (lw_Z below #[Value.ref b] s) 128 [(11, .int (nI i)), (10, .int (nI dy)), (9, .int (nI ba)), (8, .int (nI len)), (7, .int (nI n)), (6, .int (nI mc)), (5, .ref d0), (4, .ref v0), (3, .ref c0), (2, .ref t0), (1, .ref x0), (0, .ref b), (13, .int w9), (14, .int (nI h9)), (15, .int (nI 1)), (16, .int (nI e9)), (17, .int (nI r9)), (18, .int (nI (8 * r9 + e9)))] [] := by
  skip
  have hlcQ := hlc
  obtain ⟨C, YY, hX, hbl, hL, hst⟩ := hlcQ
  have hA : ∀ q, s.heap.size ≤ q → (fun q => s.heap.size ≤ q) q := fun _ h => h
  have hbA : ¬ (fun q => s.heap.size ≤ q) b := Nat.not_le.mpr hbl
  have hl6 := HSW.1
  have hm8 := HTW.1
  have hn6 := HRW.1
  refine g_iload (pc' := 130) C 13 dL_law_128 rfl rfl ?_
  refine g_iconst (pc' := 131) (v := nI 2) C dL_law_130 (by decide) rfl ?_
  refine g_icmp_geN (pc' := 134) (tgt := 179) C (by first | assumption | omega) (by first | assumption | omega) dL_law_131 (by decide) rfl (fun c_131_1 => ?_) (fun c_131_1 => ?_)
  · refine g_lv (lv' := [(11, .int (nI i)), (10, .int (nI dy)), (9, .int (nI ba)), (8, .int (nI len)), (7, .int (nI n)), (6, .int (nI mc)), (5, .ref d0), (4, .ref v0), (3, .ref c0), (2, .ref t0), (1, .ref x0), (0, .ref b), (13, .int w9), (14, .int (nI h9)), (15, .int (nI 1)), (16, .int (nI e9)), (17, .int (nI r9)), (18, .int (nI (8 * r9 + e9)))]) [0, 1, 2, 3, 4, 5, 6, 7, 8, 9, 10, 11, 12, 13, 14, 15, 16, 17] rfl ?_
    refine g_widen (k' := 100 + 200 * i) (n' := 2000 + 2000 * i) (by omega) (by omega) ?_
    exact law_179 hlc i hi HRW HSW HDW HTW HB HK HI (by omega) HC HX KN hh hr9 he
  · refine g_iload (pc' := 136) C 4 dL_law_134 rfl rfl ?_
    refine g_bipush (pc' := 138) (v := nI 6) C dL_law_136 (by decide) rfl ?_
    refine g_icmp_geN (pc' := 141) (tgt := 179) C (by first | assumption | omega) (by first | assumption | omega) dL_law_138 (by decide) rfl (fun c_138_2 => ?_) (fun c_138_2 => ?_)
    · refine g_lv (lv' := [(11, .int (nI i)), (10, .int (nI dy)), (9, .int (nI ba)), (8, .int (nI len)), (7, .int (nI n)), (6, .int (nI mc)), (5, .ref d0), (4, .ref v0), (3, .ref c0), (2, .ref t0), (1, .ref x0), (0, .ref b), (13, .int w9), (14, .int (nI h9)), (15, .int (nI 1)), (16, .int (nI e9)), (17, .int (nI r9)), (18, .int (nI (8 * r9 + e9)))]) [0, 1, 2, 3, 4, 5, 6, 7, 8, 9, 10, 11, 12, 13, 14, 15, 16, 17] rfl ?_
      refine g_widen (k' := 100 + 200 * i) (n' := 2000 + 2000 * i) (by omega) (by omega) ?_
      exact law_179 hlc i hi HRW HSW HDW HTW HB HK HI (by omega) HC HX KN hh hr9 he
    · refine g_aload_n (pc' := 142) C 10 dL_law_141 rfl rfl rfl ?_
      refine g_iload (pc' := 144) C 12 dL_law_142 rfl rfl ?_
      refine g_iconst (pc' := 145) (v := nI 3) C dL_law_144 (by decide) rfl ?_
      refine g_callPS (pc' := 148) C lk_RL_31 (kL_low l κ w9 3 (by omega) (by omega)) [] rfl rfl (Nat.le_of_ble_eq_true rfl) ⟨(by show 0 + 9 ≤ 2048; decide), (by show 219 + 2 + 40 * (0) ≤ 84000; decide)⟩ ⟨(by show _ ≤ 600104; omega), (by show _ ≤ 7301314; omega)⟩ rfl dL_law_145 rfl (fun r h => ?_)
      obtain ⟨x_145_3, hx_145_3, rfl⟩ := h
      refine g_iconst (pc' := 149) (v := nI 1) C dL_law_148 (by decide) rfl ?_
      refine g_iload (pc' := 151) C 12 dL_law_149 rfl rfl ?_
      refine g_iconst (pc' := 152) (v := nI 2) C dL_law_151 (by decide) rfl ?_
      refine g_ishr (pc' := 153) (v := w9 >>> ((nI 2) &&& 31)) C dL_law_152 rfl rfl ?_
      refine g_iconst (pc' := 154) (v := nI 4) C dL_law_153 (by decide) rfl ?_
      refine g_callPS (pc' := 157) C lk_RL_31 (kL_low l κ (w9 >>> ((nI 2) &&& 31)) 4 (by omega) (by omega)) [] rfl rfl (Nat.le_of_ble_eq_true rfl) ⟨(by show 0 + 9 ≤ 2048; decide), (by show 219 + 2 + 40 * (0) ≤ 84000; decide)⟩ ⟨(by show _ ≤ 600104; omega), (by show _ ≤ 7301314; omega)⟩ rfl dL_law_154 rfl (fun r h => ?_)
      obtain ⟨x_154_4, hx_154_4, rfl⟩ := h
      refine g_iadd (pc' := 158) (v := nI (1 + x_154_4)) C dL_law_157 (nI_add _ _) rfl ?_
      obtain ⟨qx_5, fx_5, hqx_5⟩ := LX.recv HX
      refine g_fQ (pc' := 161) (wr := [(t0, .inl (κ.2 0, 8, .inl (nA (bN th)))), (c0, .inl (κ.2 0, 8, .inl (nA ck))), (v0, .inl (κ.2 0, 24, .inl (nA (fl8 iv)))), (d0, .inl (κ.2 0, 24, .inl (nA (fl8 dv))))]) (wc := wx) C YY hA ml_RL_35 lk_RL_35 (hp_addRule l hst κ x0 x_145_3 (1 + x_154_4) HRW HSW HDW HTW HB HK HI (by omega) HX (by omega) ⟨by omega, by omega⟩ (by omega)) (fun _ h => h) (List.Perm.refl _) qx_5 hqx_5 rfl rfl (Nat.le_of_ble_eq_true rfl) ⟨(by show 1 + 9 ≤ 2048; decide), (by show 219 + 3 + 40 * (1) ≤ 84000; decide)⟩ ⟨(by show _ ≤ 600104; omega), (by show _ ≤ 7301314; omega)⟩ rfl dL_law_158 rfl (fun r_158_5 w_158_5 h_158_5 => ?_)
      obtain ⟨HX_158_5, hr_158_5⟩ := h_158_5
      have er_158_5 : r_158_5 = nI n := hr_158_5
      subst er_158_5
      refine g_iload (pc' := 163) C 4 dL_law_161 rfl rfl ?_
      refine g_icmp_neN (pc' := 166) (tgt := 170) C (by first | assumption | omega) (by first | assumption | omega) dL_law_163 (by decide) rfl (fun c_163_6 => absurd c_163_6 (by exact fun q => q rfl)) (fun c_163_6 => ?_)
      refine g_iconst (pc' := 167) (v := nI 1) C dL_law_166 (by decide) rfl ?_
      refine g_goto (tgt := 171) C dL_law_167 (by decide) ?_
      refine g_istore (pc' := 173) (lv' := [(15, .int (nI 1)), (11, .int (nI i)), (10, .int (nI dy)), (9, .int (nI ba)), (8, .int (nI len)), (7, .int (nI n)), (6, .int (nI mc)), (5, .ref d0), (4, .ref v0), (3, .ref c0), (2, .ref t0), (1, .ref x0), (0, .ref b), (13, .int w9), (14, .int (nI h9)), (16, .int (nI e9)), (17, .int (nI r9)), (18, .int (nI (8 * r9 + e9)))]) C dL_law_171 (by decide) rfl rfl ?_
      refine g_iinc (pc' := 176) (v := nI (n + 1)) (lv' := [(7, .int (nI (n + 1))), (15, .int (nI 1)), (11, .int (nI i)), (10, .int (nI dy)), (9, .int (nI ba)), (8, .int (nI len)), (6, .int (nI mc)), (5, .ref d0), (4, .ref v0), (3, .ref c0), (2, .ref t0), (1, .ref x0), (0, .ref b), (13, .int w9), (14, .int (nI h9)), (16, .int (nI e9)), (17, .int (nI r9)), (18, .int (nI (8 * r9 + e9)))]) C 5 dL_law_173 rfl (iincN1 _) (by decide) rfl rfl ?_
      refine g_goto (tgt := 880) C dL_law_176 (by decide) ?_
      refine g_lv (lv' := [(11, .int (nI i)), (10, .int (nI dy)), (9, .int (nI ba)), (8, .int (nI len)), (7, .int (nI (n + 1))), (6, .int (nI mc)), (5, .ref d0), (4, .ref v0), (3, .ref c0), (2, .ref t0), (1, .ref x0), (0, .ref b), (15, .int (nI 1)), (17, .int (nI r9))]) [2, 3, 4, 5, 0, 6, 7, 8, 9, 10, 11, 12, 1, 16] rfl ?_
      refine g_widen (k' := 100 + 200 * i + 40) (n' := 2000 + 2000 * i + 400) (by omega) (by omega) ?_
      exact law_880 hlc i hi (RW_add2 HRW (by omega) (by omega) (by omega)) HSW HDW HTW HB HK HI (by omega) HC HX_158_5 KN hr9
theorem law_end (hlc : LC l p s m meth c κ b L xs) {ws : va_W} {k n : Nat} {lv : List (Nat × Value)} (hk : k ≤ 600104) (hn : n ≤ 7301314) : G p l e room_1 s m #[Value.ref b] below meth c κ 23 (JM (fun q => s.heap.size ≤ q) s) ws k n (lw_Z below #[Value.ref b] s) 1049 lv [.int 1] := by
  obtain ⟨C, -, -, -, -, -⟩ := hlc
  exact fun H locs ls hP hJ hl => va_forget (fun q hq => hJ.2.2.2 q hq) (W.widen hk hn (lw_ret C.1 C.2.1 C.2.2.2.1 C.2.2.2.2.1 dL_law_1049))
set_option maxHeartbeats 4000000 in
set_option maxRecDepth 100000 in
theorem law_loop (hlc : LC l p s m meth c κ b L xs) : ∀ (fu i : Nat) (wx : va_W) (n : Nat) (fk : Nat → Nat) (fs : Nat → Nat) (len : Nat) (fw : Nat → Nat) (dr : Nat → Option Nat) (mc : Nat) (th : Nat → Bool) (rc : Nat → Option Nat) (ck : Nat → Nat) (pm : Nat → Nat) (ep : Nat → Nat → Option Nat) (ba : Nat) (dy : Nat) (iv : Nat → Nat → Nat) (dv : Nat → Nat → Nat), 70 - i < fu → i ≤ 70 → RW n fk fs → SW len fw → DW 0 dr → TW mc th rc ck pm ep → ba ≤ 50 → KW iv dv → IW iv → dy ≤ 100 * i → CW mc iv → LX κ x0 n fk fs len fw 0 dr mc th rc ck pm ep ba dy iv dv wx → G p l e room_1 s m #[Value.ref b] below meth c κ 23 (JM (fun q => s.heap.size ≤ q) s) ([(t0, .inl (κ.2 0, 8, .inl (nA (bN th)))), (c0, .inl (κ.2 0, 8, .inl (nA ck))), (v0, .inl (κ.2 0, 24, .inl (nA (fl8 iv)))), (d0, .inl (κ.2 0, 24, .inl (nA (fl8 dv))))] ++ wx) (100 + 200 * i) (2000 + 2000 * i) (lw_Z below #[Value.ref b] s) 49 [(11, .int (nI i)), (10, .int (nI dy)), (9, .int (nI ba)), (8, .int (nI len)), (7, .int (nI n)), (6, .int (nI mc)), (5, .ref d0), (4, .ref v0), (3, .ref c0), (2, .ref t0), (1, .ref x0), (0, .ref b)] [] := by
  have hlcQ := hlc
  obtain ⟨C, YY, hX, hbl, hL, hst⟩ := hlcQ
  have hA : ∀ q, s.heap.size ≤ q → (fun q => s.heap.size ≤ q) q := fun _ h => h
  have hbA : ¬ (fun q => s.heap.size ≤ q) b := Nat.not_le.mpr hbl
  intro fu
  induction fu with
  | zero => intro i wx n fk fs len fw dr mc th rc ck pm ep ba dy iv dv hmu; exact absurd hmu (Nat.not_lt_zero _)
  | succ fu ih =>
    intro i wx n fk fs len fw dr mc th rc ck pm ep ba dy iv dv hmu hi0 HRW HSW HDW HTW HB HK HI hdy HC HX
    have hm8 := HTW.1
    refine g_iload (pc' := 51) C 0 dL_law_49 rfl rfl ?_
    refine g_bipush (pc' := 53) (v := nI 70) C dL_law_51 (by decide) rfl ?_
    refine g_icmp_geN (pc' := 56) (tgt := 1048) C (by first | assumption | omega) (by first | assumption | omega) dL_law_53 (by decide) rfl (fun c_53_1 => ?_) (fun c_53_1 => ?_)
    · refine g_iconst (pc' := 1049) (v := 1) C dL_law_1048 (by decide) rfl ?_
      exact law_end hlc (by omega) (by omega)
    · have hi : i < 70 := c_53_1
      have KN : NXT p l e s m below meth c κ b x0 t0 c0 v0 d0 i := fun wx n fk fs len fw dr mc th rc ck pm ep ba dy iv dv HRW HSW HDW HTW HB HK HI hdy HC HX => ih (i + 1) wx n fk fs len fw dr mc th rc ck pm ep ba dy iv dv (by omega) (by omega) HRW HSW HDW HTW HB HK HI hdy HC HX
      refine g_aload_n (pc' := 57) C 11 dL_law_56 rfl rfl rfl ?_
      refine g_iconst (pc' := 58) (v := nI 2) C dL_law_57 (by decide) rfl ?_
      refine g_iload (pc' := 60) C 0 dL_law_58 rfl rfl ?_
      refine g_imul (pc' := 61) (v := nI (2 * i)) C dL_law_60 (pk_mul _ _) rfl ?_
      refine g_callS (pc' := 64) C hX hbl hbA lk_RL_25 (kL_cell l κ b L xs (2 * i) (by omega) (by omega)) rfl (Nat.le_of_ble_eq_true rfl) ⟨(by show 0 + 9 ≤ 2048; decide), (by show 219 + 2 + 40 * (0) ≤ 84000; decide)⟩ ⟨(by show _ ≤ 600104; omega), (by show _ ≤ 7301314; omega)⟩ rfl dL_law_61 rfl (fun v_61_2 _ => ?_)
      refine g_istore (pc' := 66) (lv' := [(12, .int v_61_2), (11, .int (nI i)), (10, .int (nI dy)), (9, .int (nI ba)), (8, .int (nI len)), (7, .int (nI n)), (6, .int (nI mc)), (5, .ref d0), (4, .ref v0), (3, .ref c0), (2, .ref t0), (1, .ref x0), (0, .ref b)]) C dL_law_64 (by decide) rfl rfl ?_
      refine g_aload_n (pc' := 67) C 12 dL_law_66 rfl rfl rfl ?_
      refine g_iconst (pc' := 68) (v := nI 2) C dL_law_67 (by decide) rfl ?_
      refine g_iload (pc' := 70) C 1 dL_law_68 rfl rfl ?_
      refine g_imul (pc' := 71) (v := nI (2 * i)) C dL_law_70 (pk_mul _ _) rfl ?_
      refine g_iconst (pc' := 72) (v := nI 1) C dL_law_71 (by decide) rfl ?_
      refine g_iadd (pc' := 73) (v := nI ((2 * i) + 1)) C dL_law_72 (nI_add _ _) rfl ?_
      refine g_callS (pc' := 76) C hX hbl hbA lk_RL_25 (kL_cell l κ b L xs ((2 * i) + 1) (by omega) (by omega)) rfl (Nat.le_of_ble_eq_true rfl) ⟨(by show 0 + 9 ≤ 2048; decide), (by show 219 + 2 + 40 * (0) ≤ 84000; decide)⟩ ⟨(by show _ ≤ 600104; omega), (by show _ ≤ 7301314; omega)⟩ rfl dL_law_73 rfl (fun v_73_3 _ => ?_)
      refine g_istore (pc' := 78) (lv' := [(13, .int v_73_3), (12, .int v_61_2), (11, .int (nI i)), (10, .int (nI dy)), (9, .int (nI ba)), (8, .int (nI len)), (7, .int (nI n)), (6, .int (nI mc)), (5, .ref d0), (4, .ref v0), (3, .ref c0), (2, .ref t0), (1, .ref x0), (0, .ref b)]) C dL_law_76 (by decide) rfl rfl ?_
      refine g_iload (pc' := 80) C 1 dL_law_78 rfl rfl ?_
      refine g_bipush (pc' := 82) (v := nI 16) C dL_law_80 (by decide) rfl ?_
      refine g_callPS (pc' := 85) C lk_RL_31 (kL_low l κ v_61_2 16 (by omega) (by omega)) [] rfl rfl (Nat.le_of_ble_eq_true rfl) ⟨(by show 0 + 9 ≤ 2048; decide), (by show 219 + 2 + 40 * (0) ≤ 84000; decide)⟩ ⟨(by show _ ≤ 600104; omega), (by show _ ≤ 7301314; omega)⟩ rfl dL_law_82 rfl (fun r h => ?_)
      obtain ⟨x_82_4, hx_82_4, rfl⟩ := h
      refine g_istore (pc' := 87) (lv' := [(14, .int (nI x_82_4)), (13, .int v_73_3), (12, .int v_61_2), (11, .int (nI i)), (10, .int (nI dy)), (9, .int (nI ba)), (8, .int (nI len)), (7, .int (nI n)), (6, .int (nI mc)), (5, .ref d0), (4, .ref v0), (3, .ref c0), (2, .ref t0), (1, .ref x0), (0, .ref b)]) C dL_law_85 (by decide) rfl rfl ?_
      refine g_iconst (pc' := 88) (v := nI 1) C dL_law_87 (by decide) rfl ?_
      refine g_istore (pc' := 90) (lv' := [(15, .int (nI 1)), (14, .int (nI x_82_4)), (13, .int v_73_3), (12, .int v_61_2), (11, .int (nI i)), (10, .int (nI dy)), (9, .int (nI ba)), (8, .int (nI len)), (7, .int (nI n)), (6, .int (nI mc)), (5, .ref d0), (4, .ref v0), (3, .ref c0), (2, .ref t0), (1, .ref x0), (0, .ref b)]) C dL_law_88 (by decide) rfl rfl ?_
      refine g_iload (pc' := 92) C 9 dL_law_90 rfl rfl ?_
      refine g_if_neN (pc' := 95) (tgt := 99) C (by first | assumption | omega) dL_law_92 (by decide) rfl (fun c_92_5 => ?_) (fun c_92_5 => ?_)
      · refine g_iload (pc' := 101) C 2 dL_law_99 rfl rfl ?_
        refine g_iload (pc' := 103) C 9 dL_law_101 rfl rfl ?_
        refine g_callPS (pc' := 106) C lk_RL_31 (kL_low l κ v_73_3 mc (by omega) (by omega)) [] rfl rfl (Nat.le_of_ble_eq_true rfl) ⟨(by show 0 + 9 ≤ 2048; decide), (by show 219 + 2 + 40 * (0) ≤ 84000; decide)⟩ ⟨(by show _ ≤ 600104; omega), (by show _ ≤ 7301314; omega)⟩ rfl dL_law_103 rfl (fun r h => ?_)
        obtain ⟨x_103_6, hx_103_6, rfl⟩ := h
        refine g_istore (pc' := 108) (lv' := [(16, .int (nI x_103_6)), (15, .int (nI 1)), (14, .int (nI x_82_4)), (13, .int v_73_3), (12, .int v_61_2), (11, .int (nI i)), (10, .int (nI dy)), (9, .int (nI ba)), (8, .int (nI len)), (7, .int (nI n)), (6, .int (nI mc)), (5, .ref d0), (4, .ref v0), (3, .ref c0), (2, .ref t0), (1, .ref x0), (0, .ref b)]) C dL_law_106 (by decide) rfl rfl ?_
        refine g_iload (pc' := 110) C 3 dL_law_108 rfl rfl ?_
        refine g_iconst (pc' := 111) (v := nI 4) C dL_law_110 (by decide) rfl ?_
        refine g_ishr (pc' := 112) (v := v_73_3 >>> ((nI 4) &&& 31)) C dL_law_111 rfl rfl ?_
        refine g_iconst (pc' := 113) (v := nI 3) C dL_law_112 (by decide) rfl ?_
        refine g_callPS (pc' := 116) C lk_RL_31 (kL_low l κ (v_73_3 >>> ((nI 4) &&& 31)) 3 (by omega) (by omega)) [] rfl rfl (Nat.le_of_ble_eq_true rfl) ⟨(by show 0 + 9 ≤ 2048; decide), (by show 219 + 2 + 40 * (0) ≤ 84000; decide)⟩ ⟨(by show _ ≤ 600104; omega), (by show _ ≤ 7301314; omega)⟩ rfl dL_law_113 rfl (fun r h => ?_)
        obtain ⟨x_113_7, hx_113_7, rfl⟩ := h
        refine g_istore (pc' := 118) (lv' := [(17, .int (nI x_113_7)), (16, .int (nI x_103_6)), (15, .int (nI 1)), (14, .int (nI x_82_4)), (13, .int v_73_3), (12, .int v_61_2), (11, .int (nI i)), (10, .int (nI dy)), (9, .int (nI ba)), (8, .int (nI len)), (7, .int (nI n)), (6, .int (nI mc)), (5, .ref d0), (4, .ref v0), (3, .ref c0), (2, .ref t0), (1, .ref x0), (0, .ref b)]) C dL_law_116 (by decide) rfl rfl ?_
        refine g_bipush (pc' := 120) (v := nI 8) C dL_law_118 (by decide) rfl ?_
        refine g_iload (pc' := 122) C 0 dL_law_120 rfl rfl ?_
        refine g_imul (pc' := 123) (v := nI (8 * x_113_7)) C dL_law_122 (pk_mul _ _) rfl ?_
        refine g_iload (pc' := 125) C 1 dL_law_123 rfl rfl ?_
        refine g_iadd (pc' := 126) (v := nI ((8 * x_113_7) + x_103_6)) C dL_law_125 (nI_add _ _) rfl ?_
        refine g_istore (pc' := 128) (lv' := [(18, .int (nI ((8 * x_113_7) + x_103_6))), (17, .int (nI x_113_7)), (16, .int (nI x_103_6)), (15, .int (nI 1)), (14, .int (nI x_82_4)), (13, .int v_73_3), (12, .int v_61_2), (11, .int (nI i)), (10, .int (nI dy)), (9, .int (nI ba)), (8, .int (nI len)), (7, .int (nI n)), (6, .int (nI mc)), (5, .ref d0), (4, .ref v0), (3, .ref c0), (2, .ref t0), (1, .ref x0), (0, .ref b)]) C dL_law_126 (by decide) rfl rfl ?_
        refine g_lv (lv' := [(11, .int (nI i)), (10, .int (nI dy)), (9, .int (nI ba)), (8, .int (nI len)), (7, .int (nI n)), (6, .int (nI mc)), (5, .ref d0), (4, .ref v0), (3, .ref c0), (2, .ref t0), (1, .ref x0), (0, .ref b), (13, .int v_73_3), (14, .int (nI x_82_4)), (15, .int (nI 1)), (16, .int (nI x_103_6)), (17, .int (nI x_113_7)), (18, .int (nI ((8 * x_113_7) + x_103_6)))]) [7, 8, 9, 10, 11, 12, 13, 14, 15, 16, 17, 18, 5, 4, 3, 2, 1, 0] rfl ?_
        refine g_widen (k' := 100 + 200 * i) (n' := 2000 + 2000 * i) (by omega) (by omega) ?_
        exact law_128 hlc i hi HRW HSW HDW HTW HB HK HI (by omega) HC HX KN (by omega) (by omega) (fun _ => by omega)
      · refine g_iconst (pc' := 96) (v := nI 0) C dL_law_95 (by decide) rfl ?_
        refine g_goto (tgt := 106) C dL_law_96 (by decide) ?_
        refine g_istore (pc' := 108) (lv' := [(16, .int (nI 0)), (15, .int (nI 1)), (14, .int (nI x_82_4)), (13, .int v_73_3), (12, .int v_61_2), (11, .int (nI i)), (10, .int (nI dy)), (9, .int (nI ba)), (8, .int (nI len)), (7, .int (nI n)), (6, .int (nI mc)), (5, .ref d0), (4, .ref v0), (3, .ref c0), (2, .ref t0), (1, .ref x0), (0, .ref b)]) C dL_law_106 (by decide) rfl rfl ?_
        refine g_iload (pc' := 110) C 3 dL_law_108 rfl rfl ?_
        refine g_iconst (pc' := 111) (v := nI 4) C dL_law_110 (by decide) rfl ?_
        refine g_ishr (pc' := 112) (v := v_73_3 >>> ((nI 4) &&& 31)) C dL_law_111 rfl rfl ?_
        refine g_iconst (pc' := 113) (v := nI 3) C dL_law_112 (by decide) rfl ?_
        refine g_callPS (pc' := 116) C lk_RL_31 (kL_low l κ (v_73_3 >>> ((nI 4) &&& 31)) 3 (by omega) (by omega)) [] rfl rfl (Nat.le_of_ble_eq_true rfl) ⟨(by show 0 + 9 ≤ 2048; decide), (by show 219 + 2 + 40 * (0) ≤ 84000; decide)⟩ ⟨(by show _ ≤ 600104; omega), (by show _ ≤ 7301314; omega)⟩ rfl dL_law_113 rfl (fun r h => ?_)
        obtain ⟨x_113_8, hx_113_8, rfl⟩ := h
        refine g_istore (pc' := 118) (lv' := [(17, .int (nI x_113_8)), (16, .int (nI 0)), (15, .int (nI 1)), (14, .int (nI x_82_4)), (13, .int v_73_3), (12, .int v_61_2), (11, .int (nI i)), (10, .int (nI dy)), (9, .int (nI ba)), (8, .int (nI len)), (7, .int (nI n)), (6, .int (nI mc)), (5, .ref d0), (4, .ref v0), (3, .ref c0), (2, .ref t0), (1, .ref x0), (0, .ref b)]) C dL_law_116 (by decide) rfl rfl ?_
        refine g_bipush (pc' := 120) (v := nI 8) C dL_law_118 (by decide) rfl ?_
        refine g_iload (pc' := 122) C 0 dL_law_120 rfl rfl ?_
        refine g_imul (pc' := 123) (v := nI (8 * x_113_8)) C dL_law_122 (pk_mul _ _) rfl ?_
        refine g_iload (pc' := 125) C 1 dL_law_123 rfl rfl ?_
        refine g_iadd (pc' := 126) (v := nI ((8 * x_113_8) + 0)) C dL_law_125 (nI_add _ _) rfl ?_
        refine g_istore (pc' := 128) (lv' := [(18, .int (nI ((8 * x_113_8) + 0))), (17, .int (nI x_113_8)), (16, .int (nI 0)), (15, .int (nI 1)), (14, .int (nI x_82_4)), (13, .int v_73_3), (12, .int v_61_2), (11, .int (nI i)), (10, .int (nI dy)), (9, .int (nI ba)), (8, .int (nI len)), (7, .int (nI n)), (6, .int (nI mc)), (5, .ref d0), (4, .ref v0), (3, .ref c0), (2, .ref t0), (1, .ref x0), (0, .ref b)]) C dL_law_126 (by decide) rfl rfl ?_
        refine g_lv (lv' := [(11, .int (nI i)), (10, .int (nI dy)), (9, .int (nI ba)), (8, .int (nI len)), (7, .int (nI n)), (6, .int (nI mc)), (5, .ref d0), (4, .ref v0), (3, .ref c0), (2, .ref t0), (1, .ref x0), (0, .ref b), (13, .int v_73_3), (14, .int (nI x_82_4)), (15, .int (nI 1)), (16, .int (nI 0)), (17, .int (nI x_113_8)), (18, .int (nI ((8 * x_113_8) + 0)))]) [7, 8, 9, 10, 11, 12, 13, 14, 15, 16, 17, 18, 5, 4, 3, 2, 1, 0] rfl ?_
        refine g_widen (k' := 100 + 200 * i) (n' := 2000 + 2000 * i) (by omega) (by omega) ?_
        exact law_128 hlc i hi HRW HSW HDW HTW HB HK HI (by omega) HC HX KN (by omega) (by omega) (fun z => by omega)
end LAW
