section LAW
variable {p : Program} {l : Launch} {e : Env} {s : State} {m : MethodId} {below : List Frame} {meth : Method} {c : Code} {κ : KK} {b L x0 u0 o0 : Nat} {xs : Nat → Int32}
set_option maxHeartbeats 4000000 in
set_option maxRecDepth 100000 in
theorem law_addRule (hlc : LC l p s m meth c κ b L xs) (i : Nat) (hi : 5 * i + 5 ≤ L) {t9 : Nat} {wx wm : va_W} {ou : Nat → Int64} {n : Nat} {fk : Nat → Nat} {fs : Nat → Nat} {len : Nat} {fw : Nat → Nat} {ds : Nat} {dr : Nat → Option Nat} {mc : Nat} {th : Nat → Bool} {rc : Nat → Option Nat} {ck : Nat → Nat} {pm : Nat → Nat} {ep : Nat → Nat → Option Nat} {ba : Nat} {dy : Nat} {iv : Nat → Nat → Nat} {dv : Nat → Nat → Nat} (HRW : RW n fk fs) (HSW : SW len fw) (HDW : DW ds dr) (HTW : TW mc th rc ck pm ep) (HB : ba ≤ 50) (HK : KW iv dv) (HI : IW iv) (hdy : dy ≤ 100 * i) (HX : LX κ x0 n fk fs len fw ds dr mc th rc ck pm ep ba dy iv dv wx) (HM : LM κ u0 t9 n fk fs len fw ds dr mc th rc ck pm ep ba dy iv dv wm) (KN : NX p l e s m below meth c κ b x0 u0 o0 i) : LG p l e s m below meth c κ b x0 u0 o0 i 144 (100 + 10 * i) (2000 + 50 * i) wx ou wm := by
  obtain ⟨C, YY, hX, hbl, hL, hst⟩ := hlc
  have hA : ∀ q, s.heap.size ≤ q → (fun q => s.heap.size ≤ q) q := fun _ h => h
  have hbA : ¬ (fun q => s.heap.size ≤ q) b := Nat.not_le.mpr hbl
  refine g_aload_n (pc' := 145) C 3 dL_law_144 rfl rfl rfl ?_
  refine g_aload_n (pc' := 146) C 4 dL_law_145 rfl rfl rfl ?_
  refine g_iload (pc' := 148) C 0 dL_law_146 rfl rfl ?_
  refine g_iconst (pc' := 149) (v := nI 1) C dL_law_148 (by decide) rfl ?_
  refine g_iadd (pc' := 150) (v := nI ((5 * i) + 1)) C dL_law_149 (nI_add _ _) rfl ?_
  refine g_sld (pc' := 151) C hX hbl hbA ((5 * i) + 1) (by omega) (by omega) dL_law_150 rfl ?_
  refine g_aload_n (pc' := 152) C 4 dL_law_151 rfl rfl rfl ?_
  refine g_iload (pc' := 154) C 0 dL_law_152 rfl rfl ?_
  refine g_iconst (pc' := 155) (v := nI 2) C dL_law_154 (by decide) rfl ?_
  refine g_iadd (pc' := 156) (v := nI ((5 * i) + 2)) C dL_law_155 (nI_add _ _) rfl ?_
  refine g_sld (pc' := 157) C hX hbl hbA ((5 * i) + 2) (by omega) (by omega) dL_law_156 rfl ?_
  refine g_aload_n (pc' := 158) C 1 dL_law_157 rfl rfl rfl ?_
  refine g_fHi (pc' := 161) (wr := wm) (wc := wx ++ outW κ o0 ou) C hA YY lh_addRule (hX_addRule l hst κ x0 o0 ou (xs ((5 * i) + 1)) (xs ((5 * i) + 2)) HRW HSW HDW HTW HB HK HI (by omega) HX) List.perm_append_comm rfl (Nat.le_of_ble_eq_true rfl) ⟨(by show 2 + 9 ≤ 2048; decide), (by show 219 + 5 + 40 * 2 ≤ 84000; decide)⟩ ⟨(by show _ ≤ 788806; omega), (by show _ ≤ 6729686; omega)⟩ rfl dL_law_158 rfl (fun r9 w9 h9 => ?_)
  rcases h9 with ⟨hc, rfl, w2, ou2, hp2, HX2, ho2⟩ | ⟨hc, rfl, w2, ou2, hp2, HX2⟩
  · refine g_perm (ws' := ((w2 ++ outW κ o0 ou2) ++ wm)) (List.perm_append_comm.trans (hp2.append_right wm)) ?_
    refine g_istore (pc' := 163) (lv' := [(5, .int (nI 0)), (4, .int (nI (5 * i))), (3, .ref o0), (2, .ref u0), (1, .ref x0), (0, .ref b)]) C dL_law_161 (by decide) rfl rfl ?_
    refine g_aload_n (pc' := 164) C 3 dL_law_163 rfl rfl rfl ?_
    refine g_aload_n (pc' := 165) C 5 dL_law_164 rfl rfl rfl ?_
    refine g_iload (pc' := 167) C 1 dL_law_165 rfl rfl ?_
    refine g_iconst (pc' := 168) (v := nI 1) C dL_law_167 (by decide) rfl ?_
    refine g_iadd (pc' := 169) (v := nI ((5 * i) + 1)) C dL_law_168 (nI_add _ _) rfl ?_
    refine g_sld (pc' := 170) C hX hbl hbA ((5 * i) + 1) (by omega) (by omega) dL_law_169 rfl ?_
    refine g_aload_n (pc' := 171) C 5 dL_law_170 rfl rfl rfl ?_
    refine g_iload (pc' := 173) C 1 dL_law_171 rfl rfl ?_
    refine g_iconst (pc' := 174) (v := nI 2) C dL_law_173 (by decide) rfl ?_
    refine g_iadd (pc' := 175) (v := nI ((5 * i) + 2)) C dL_law_174 (nI_add _ _) rfl ?_
    refine g_sld (pc' := 176) C hX hbl hbA ((5 * i) + 2) (by omega) (by omega) dL_law_175 rfl ?_
    obtain ⟨qm, fm9, hqm⟩ := LM.recv HM
    refine g_fMi (pc' := 179) (wr := w2 ++ outW κ o0 ou2) (wc := wm) C hA lk_RL_85 (hM_addRule l κ u0 (xs ((5 * i) + 1)) (xs ((5 * i) + 2)) HRW HSW HDW HTW HB HK HI (by omega) HM) (List.Perm.refl _) qm hqm rfl rfl (Nat.le_of_ble_eq_true rfl) ⟨(by show 2 + 9 ≤ 2048; decide), (by show 219 + 3 + 40 * 2 ≤ 84000; decide)⟩ ⟨(by show _ ≤ 788806; omega), (by show _ ≤ 6729686; omega)⟩ rfl dL_law_176 rfl (fun r6 w6 h6 => ?_)
    obtain ⟨HM6, hr6⟩ := h6.1 hc
    clear h6
    refine g_istore (pc' := 181) (lv' := [(6, .int r6), (5, .int (nI 0)), (4, .int (nI (5 * i))), (3, .ref o0), (2, .ref u0), (1, .ref x0), (0, .ref b)]) C dL_law_179 (by decide) rfl rfl ?_
    refine g_aload_n (pc' := 182) C 4 dL_law_181 rfl rfl rfl ?_
    obtain ⟨qt, ft, hqt⟩ := LM.recv HM6
    refine g_fP (pc' := 185) C lk_RL_86 (hM_thrown l κ u0 HM6) (fun q hq => List.mem_append_right _ hq) qt hqt rfl rfl (Nat.le_of_ble_eq_true rfl) ⟨(by show 0 + 9 ≤ 2048; decide), (by show 219 + 1 + 40 * 0 ≤ 84000; decide)⟩ ⟨(by show _ ≤ 788806; omega), (by show _ ≤ 6729686; omega)⟩ rfl dL_law_182 rfl (fun r8 h8 => ?_)
    obtain rfl : r8 = nI 0 := h8
    refine g_iload (pc' := 187) C 1 dL_law_185 rfl rfl ?_
    refine g_icmp_eqN (pc' := 190) (tgt := 192) C (by first | assumption | omega) (by first | assumption | omega) dL_law_187 (by decide) rfl (fun _ => ?_) (fun z => absurd z (by decide))
    refine g_iload (pc' := 194) C 1 dL_law_192 rfl rfl ?_
    refine g_if_neN (pc' := 197) (tgt := 209) C (by first | assumption | omega) dL_law_194 (by decide) rfl (fun z => absurd z (by decide)) (fun _ => ?_)
    refine g_aload_n (pc' := 198) C 3 dL_law_197 rfl rfl rfl ?_
    refine g_iconst (pc' := 199) (v := nI 0) C dL_law_198 (by decide) rfl ?_
    refine g_lald (pc' := 200) C (w2).length out_at 0 (by decide) (by decide) dL_law_199 rfl ?_
    refine g_iload (pc' := 202) C 0 dL_law_200 rfl rfl ?_
    refine g_i2l (pc' := 203) (v := (r6).toInt64) C dL_law_202 rfl rfl ?_
    refine g_lcmp (pc' := 204) C dL_law_203 rfl ?_
    refine g_val (y := nI 0) (lg_o ho2 hr6) ?_
    refine g_if_eqN (pc' := 207) (tgt := 209) C (by first | assumption | omega) dL_law_204 (by decide) rfl (fun _ => ?_) (fun z => absurd z (by decide))
    refine g_goto (tgt := 1355) C dL_law_209 (by decide) ?_
    refine g_lv (lv' := [(4, .int (nI (5 * i))), (3, .ref o0), (2, .ref u0), (1, .ref x0), (0, .ref b)]) [2, 3, 4, 5, 6] rfl ?_
    refine g_widen (k' := 100 + 10 * (i + 1)) (n' := 2000 + 50 * (i + 1)) (by omega) (by omega) ?_
    exact KN _ _ _ _ _ _ _ _ _ _ _ _ _ _ _ _ _ _ _ _ _ (RW_add HRW hc) HSW HDW HTW HB HK HI (by omega) HX2 HM6
  · refine g_perm (ws' := ((w2 ++ outW κ o0 ou2) ++ wm)) (List.perm_append_comm.trans (hp2.append_right wm)) ?_
    refine g_istore (pc' := 163) (lv' := [(5, .int (nI (c_addRule (xs ((5 * i) + 1)) (xs ((5 * i) + 2)) n))), (4, .int (nI (5 * i))), (3, .ref o0), (2, .ref u0), (1, .ref x0), (0, .ref b)]) C dL_law_161 (by decide) rfl rfl ?_
    refine g_aload_n (pc' := 164) C 3 dL_law_163 rfl rfl rfl ?_
    refine g_aload_n (pc' := 165) C 5 dL_law_164 rfl rfl rfl ?_
    refine g_iload (pc' := 167) C 1 dL_law_165 rfl rfl ?_
    refine g_iconst (pc' := 168) (v := nI 1) C dL_law_167 (by decide) rfl ?_
    refine g_iadd (pc' := 169) (v := nI ((5 * i) + 1)) C dL_law_168 (nI_add _ _) rfl ?_
    refine g_sld (pc' := 170) C hX hbl hbA ((5 * i) + 1) (by omega) (by omega) dL_law_169 rfl ?_
    refine g_aload_n (pc' := 171) C 5 dL_law_170 rfl rfl rfl ?_
    refine g_iload (pc' := 173) C 1 dL_law_171 rfl rfl ?_
    refine g_iconst (pc' := 174) (v := nI 2) C dL_law_173 (by decide) rfl ?_
    refine g_iadd (pc' := 175) (v := nI ((5 * i) + 2)) C dL_law_174 (nI_add _ _) rfl ?_
    refine g_sld (pc' := 176) C hX hbl hbA ((5 * i) + 2) (by omega) (by omega) dL_law_175 rfl ?_
    obtain ⟨qm, fm9, hqm⟩ := LM.recv HM
    refine g_fMi (pc' := 179) (wr := w2 ++ outW κ o0 ou2) (wc := wm) C hA lk_RL_85 (hM_addRule l κ u0 (xs ((5 * i) + 1)) (xs ((5 * i) + 2)) HRW HSW HDW HTW HB HK HI (by omega) HM) (List.Perm.refl _) qm hqm rfl rfl (Nat.le_of_ble_eq_true rfl) ⟨(by show 2 + 9 ≤ 2048; decide), (by show 219 + 3 + 40 * 2 ≤ 84000; decide)⟩ ⟨(by show _ ≤ 788806; omega), (by show _ ≤ 6729686; omega)⟩ rfl dL_law_176 rfl (fun r6 w6 h6 => ?_)
    have HM6 := h6.2 hc
    clear h6
    refine g_istore (pc' := 181) (lv' := [(6, .int r6), (5, .int (nI (c_addRule (xs ((5 * i) + 1)) (xs ((5 * i) + 2)) n))), (4, .int (nI (5 * i))), (3, .ref o0), (2, .ref u0), (1, .ref x0), (0, .ref b)]) C dL_law_179 (by decide) rfl rfl ?_
    refine g_aload_n (pc' := 182) C 4 dL_law_181 rfl rfl rfl ?_
    obtain ⟨qt, ft, hqt⟩ := LM.recv HM6
    refine g_fP (pc' := 185) C lk_RL_86 (hM_thrown l κ u0 HM6) (fun q hq => List.mem_append_right _ hq) qt hqt rfl rfl (Nat.le_of_ble_eq_true rfl) ⟨(by show 0 + 9 ≤ 2048; decide), (by show 219 + 1 + 40 * 0 ≤ 84000; decide)⟩ ⟨(by show _ ≤ 788806; omega), (by show _ ≤ 6729686; omega)⟩ rfl dL_law_182 rfl (fun r8 h8 => ?_)
    obtain rfl : r8 = nI (c_addRule (xs ((5 * i) + 1)) (xs ((5 * i) + 2)) n) := h8
    refine g_iload (pc' := 187) C 1 dL_law_185 rfl rfl ?_
    refine g_icmp_eq (pc' := 190) (tgt := 192) C dL_law_187 (by decide) rfl (fun c_187_4 => ?_) (fun c_187_4 => absurd c_187_4 (by exact fun q => q rfl))
    refine g_iload (pc' := 194) C 1 dL_law_192 rfl rfl ?_
    refine g_if_ne (pc' := 197) (tgt := 209) C dL_law_194 (by decide) rfl (fun c_194_5 => ?_) (fun c_194_5 => absurd c_194_5 (by exact nI_c0 hc cb_addRule))
    refine g_goto (tgt := 1355) C dL_law_209 (by decide) ?_
    refine g_lv (lv' := [(4, .int (nI (5 * i))), (3, .ref o0), (2, .ref u0), (1, .ref x0), (0, .ref b)]) [2, 3, 4, 5, 6] rfl ?_
    refine g_widen (k' := 100 + 10 * (i + 1)) (n' := 2000 + 50 * (i + 1)) (by omega) (by omega) ?_
    exact KN _ _ _ _ _ _ _ _ _ _ _ _ _ _ _ _ _ _ _ _ _ HRW HSW HDW HTW HB HK HI (by omega) HX2 HM6

set_option maxHeartbeats 4000000 in
set_option maxRecDepth 100000 in
theorem law_headwords (hlc : LC l p s m meth c κ b L xs) (i : Nat) (hi : 5 * i + 5 ≤ L) {t9 : Nat} {wx wm : va_W} {ou : Nat → Int64} {n : Nat} {fk : Nat → Nat} {fs : Nat → Nat} {len : Nat} {fw : Nat → Nat} {ds : Nat} {dr : Nat → Option Nat} {mc : Nat} {th : Nat → Bool} {rc : Nat → Option Nat} {ck : Nat → Nat} {pm : Nat → Nat} {ep : Nat → Nat → Option Nat} {ba : Nat} {dy : Nat} {iv : Nat → Nat → Nat} {dv : Nat → Nat → Nat} (HRW : RW n fk fs) (HSW : SW len fw) (HDW : DW ds dr) (HTW : TW mc th rc ck pm ep) (HB : ba ≤ 50) (HK : KW iv dv) (HI : IW iv) (hdy : dy ≤ 100 * i) (HX : LX κ x0 n fk fs len fw ds dr mc th rc ck pm ep ba dy iv dv wx) (HM : LM κ u0 t9 n fk fs len fw ds dr mc th rc ck pm ep ba dy iv dv wm) (KN : NX p l e s m below meth c κ b x0 u0 o0 i) : LG p l e s m below meth c κ b x0 u0 o0 i 212 (100 + 10 * i) (2000 + 50 * i) wx ou wm := by
  obtain ⟨C, YY, hX, hbl, hL, hst⟩ := hlc
  have hA : ∀ q, s.heap.size ≤ q → (fun q => s.heap.size ≤ q) q := fun _ h => h
  have hbA : ¬ (fun q => s.heap.size ≤ q) b := Nat.not_le.mpr hbl
  refine g_aload_n (pc' := 213) C 3 dL_law_212 rfl rfl rfl ?_
  refine g_aload_n (pc' := 214) C 4 dL_law_213 rfl rfl rfl ?_
  refine g_iload (pc' := 216) C 0 dL_law_214 rfl rfl ?_
  refine g_iconst (pc' := 217) (v := nI 1) C dL_law_216 (by decide) rfl ?_
  refine g_iadd (pc' := 218) (v := nI ((5 * i) + 1)) C dL_law_217 (nI_add _ _) rfl ?_
  refine g_sld (pc' := 219) C hX hbl hbA ((5 * i) + 1) (by omega) (by omega) dL_law_218 rfl ?_
  refine g_aload_n (pc' := 220) C 1 dL_law_219 rfl rfl rfl ?_
  refine g_fHi (pc' := 223) (wr := wm) (wc := wx ++ outW κ o0 ou) C hA YY lh_headwords (hX_headwords l hst κ x0 o0 ou (xs ((5 * i) + 1)) HRW HSW HDW HTW HB HK HI (by omega) HX) List.perm_append_comm rfl (Nat.le_of_ble_eq_true rfl) ⟨(by show 2 + 9 ≤ 2048; decide), (by show 219 + 4 + 40 * 2 ≤ 84000; decide)⟩ ⟨(by show _ ≤ 788806; omega), (by show _ ≤ 6729686; omega)⟩ rfl dL_law_220 rfl (fun r9 w9 h9 => ?_)
  rcases h9 with ⟨hc, rfl, w2, ou2, hp2, HX2, ho2⟩ | ⟨hc, rfl, w2, ou2, hp2, HX2⟩
  · refine g_perm (ws' := ((w2 ++ outW κ o0 ou2) ++ wm)) (List.perm_append_comm.trans (hp2.append_right wm)) ?_
    refine g_istore (pc' := 225) (lv' := [(5, .int (nI 0)), (4, .int (nI (5 * i))), (3, .ref o0), (2, .ref u0), (1, .ref x0), (0, .ref b)]) C dL_law_223 (by decide) rfl rfl ?_
    refine g_aload_n (pc' := 226) C 3 dL_law_225 rfl rfl rfl ?_
    refine g_aload_n (pc' := 227) C 5 dL_law_226 rfl rfl rfl ?_
    refine g_iload (pc' := 229) C 1 dL_law_227 rfl rfl ?_
    refine g_iconst (pc' := 230) (v := nI 1) C dL_law_229 (by decide) rfl ?_
    refine g_iadd (pc' := 231) (v := nI ((5 * i) + 1)) C dL_law_230 (nI_add _ _) rfl ?_
    refine g_sld (pc' := 232) C hX hbl hbA ((5 * i) + 1) (by omega) (by omega) dL_law_231 rfl ?_
    obtain ⟨qm, fm9, hqm⟩ := LM.recv HM
    refine g_fMi (pc' := 235) (wr := w2 ++ outW κ o0 ou2) (wc := wm) C hA lk_RL_93 (hM_headwords l κ u0 (xs ((5 * i) + 1)) HRW HSW HDW HTW HB HK HI (by omega) HM) (List.Perm.refl _) qm hqm rfl rfl (Nat.le_of_ble_eq_true rfl) ⟨(by show 2 + 9 ≤ 2048; decide), (by show 219 + 4 + 40 * 2 ≤ 84000; decide)⟩ ⟨(by show _ ≤ 788806; omega), (by show _ ≤ 6729686; omega)⟩ rfl dL_law_232 rfl (fun r6 w6 h6 => ?_)
    obtain ⟨HM6, hr6⟩ := h6.1 hc
    clear h6
    refine g_istore (pc' := 237) (lv' := [(6, .int r6), (5, .int (nI 0)), (4, .int (nI (5 * i))), (3, .ref o0), (2, .ref u0), (1, .ref x0), (0, .ref b)]) C dL_law_235 (by decide) rfl rfl ?_
    refine g_aload_n (pc' := 238) C 4 dL_law_237 rfl rfl rfl ?_
    obtain ⟨qt, ft, hqt⟩ := LM.recv HM6
    refine g_fP (pc' := 241) C lk_RL_86 (hM_thrown l κ u0 HM6) (fun q hq => List.mem_append_right _ hq) qt hqt rfl rfl (Nat.le_of_ble_eq_true rfl) ⟨(by show 0 + 9 ≤ 2048; decide), (by show 219 + 1 + 40 * 0 ≤ 84000; decide)⟩ ⟨(by show _ ≤ 788806; omega), (by show _ ≤ 6729686; omega)⟩ rfl dL_law_238 rfl (fun r8 h8 => ?_)
    obtain rfl : r8 = nI 0 := h8
    refine g_iload (pc' := 243) C 1 dL_law_241 rfl rfl ?_
    refine g_icmp_eqN (pc' := 246) (tgt := 248) C (by first | assumption | omega) (by first | assumption | omega) dL_law_243 (by decide) rfl (fun _ => ?_) (fun z => absurd z (by decide))
    refine g_iload (pc' := 250) C 1 dL_law_248 rfl rfl ?_
    refine g_if_neN (pc' := 253) (tgt := 265) C (by first | assumption | omega) dL_law_250 (by decide) rfl (fun z => absurd z (by decide)) (fun _ => ?_)
    refine g_aload_n (pc' := 254) C 3 dL_law_253 rfl rfl rfl ?_
    refine g_iconst (pc' := 255) (v := nI 0) C dL_law_254 (by decide) rfl ?_
    refine g_lald (pc' := 256) C (w2).length out_at 0 (by decide) (by decide) dL_law_255 rfl ?_
    refine g_iload (pc' := 258) C 0 dL_law_256 rfl rfl ?_
    refine g_i2l (pc' := 259) (v := (r6).toInt64) C dL_law_258 rfl rfl ?_
    refine g_lcmp (pc' := 260) C dL_law_259 rfl ?_
    refine g_val (y := nI 0) (lg_o ho2 hr6) ?_
    refine g_if_eqN (pc' := 263) (tgt := 265) C (by first | assumption | omega) dL_law_260 (by decide) rfl (fun _ => ?_) (fun z => absurd z (by decide))
    refine g_goto (tgt := 1355) C dL_law_265 (by decide) ?_
    refine g_lv (lv' := [(4, .int (nI (5 * i))), (3, .ref o0), (2, .ref u0), (1, .ref x0), (0, .ref b)]) [2, 3, 4, 5, 6] rfl ?_
    refine g_widen (k' := 100 + 10 * (i + 1)) (n' := 2000 + 50 * (i + 1)) (by omega) (by omega) ?_
    exact KN _ _ _ _ _ _ _ _ _ _ _ _ _ _ _ _ _ _ _ _ _ HRW HSW HDW HTW HB HK HI (by omega) HX2 HM6
  · refine g_perm (ws' := ((w2 ++ outW κ o0 ou2) ++ wm)) (List.perm_append_comm.trans (hp2.append_right wm)) ?_
    refine g_istore (pc' := 225) (lv' := [(5, .int (nI (c_w (xs ((5 * i) + 1))))), (4, .int (nI (5 * i))), (3, .ref o0), (2, .ref u0), (1, .ref x0), (0, .ref b)]) C dL_law_223 (by decide) rfl rfl ?_
    refine g_aload_n (pc' := 226) C 3 dL_law_225 rfl rfl rfl ?_
    refine g_aload_n (pc' := 227) C 5 dL_law_226 rfl rfl rfl ?_
    refine g_iload (pc' := 229) C 1 dL_law_227 rfl rfl ?_
    refine g_iconst (pc' := 230) (v := nI 1) C dL_law_229 (by decide) rfl ?_
    refine g_iadd (pc' := 231) (v := nI ((5 * i) + 1)) C dL_law_230 (nI_add _ _) rfl ?_
    refine g_sld (pc' := 232) C hX hbl hbA ((5 * i) + 1) (by omega) (by omega) dL_law_231 rfl ?_
    obtain ⟨qm, fm9, hqm⟩ := LM.recv HM
    refine g_fMi (pc' := 235) (wr := w2 ++ outW κ o0 ou2) (wc := wm) C hA lk_RL_93 (hM_headwords l κ u0 (xs ((5 * i) + 1)) HRW HSW HDW HTW HB HK HI (by omega) HM) (List.Perm.refl _) qm hqm rfl rfl (Nat.le_of_ble_eq_true rfl) ⟨(by show 2 + 9 ≤ 2048; decide), (by show 219 + 4 + 40 * 2 ≤ 84000; decide)⟩ ⟨(by show _ ≤ 788806; omega), (by show _ ≤ 6729686; omega)⟩ rfl dL_law_232 rfl (fun r6 w6 h6 => ?_)
    have HM6 := h6.2 hc
    clear h6
    refine g_istore (pc' := 237) (lv' := [(6, .int r6), (5, .int (nI (c_w (xs ((5 * i) + 1))))), (4, .int (nI (5 * i))), (3, .ref o0), (2, .ref u0), (1, .ref x0), (0, .ref b)]) C dL_law_235 (by decide) rfl rfl ?_
    refine g_aload_n (pc' := 238) C 4 dL_law_237 rfl rfl rfl ?_
    obtain ⟨qt, ft, hqt⟩ := LM.recv HM6
    refine g_fP (pc' := 241) C lk_RL_86 (hM_thrown l κ u0 HM6) (fun q hq => List.mem_append_right _ hq) qt hqt rfl rfl (Nat.le_of_ble_eq_true rfl) ⟨(by show 0 + 9 ≤ 2048; decide), (by show 219 + 1 + 40 * 0 ≤ 84000; decide)⟩ ⟨(by show _ ≤ 788806; omega), (by show _ ≤ 6729686; omega)⟩ rfl dL_law_238 rfl (fun r8 h8 => ?_)
    obtain rfl : r8 = nI (c_w (xs ((5 * i) + 1))) := h8
    refine g_iload (pc' := 243) C 1 dL_law_241 rfl rfl ?_
    refine g_icmp_eq (pc' := 246) (tgt := 248) C dL_law_243 (by decide) rfl (fun c_243_4 => ?_) (fun c_243_4 => absurd c_243_4 (by exact fun q => q rfl))
    refine g_iload (pc' := 250) C 1 dL_law_248 rfl rfl ?_
    refine g_if_ne (pc' := 253) (tgt := 265) C dL_law_250 (by decide) rfl (fun c_250_5 => ?_) (fun c_250_5 => absurd c_250_5 (by exact nI_c0 hc cb_headwords))
    refine g_goto (tgt := 1355) C dL_law_265 (by decide) ?_
    refine g_lv (lv' := [(4, .int (nI (5 * i))), (3, .ref o0), (2, .ref u0), (1, .ref x0), (0, .ref b)]) [2, 3, 4, 5, 6] rfl ?_
    refine g_widen (k' := 100 + 10 * (i + 1)) (n' := 2000 + 50 * (i + 1)) (by omega) (by omega) ?_
    exact KN _ _ _ _ _ _ _ _ _ _ _ _ _ _ _ _ _ _ _ _ _ HRW HSW HDW HTW HB HK HI (by omega) HX2 HM6

set_option maxHeartbeats 4000000 in
set_option maxRecDepth 100000 in
theorem law_isForm (hlc : LC l p s m meth c κ b L xs) (i : Nat) (hi : 5 * i + 5 ≤ L) {t9 : Nat} {wx wm : va_W} {ou : Nat → Int64} {n : Nat} {fk : Nat → Nat} {fs : Nat → Nat} {len : Nat} {fw : Nat → Nat} {ds : Nat} {dr : Nat → Option Nat} {mc : Nat} {th : Nat → Bool} {rc : Nat → Option Nat} {ck : Nat → Nat} {pm : Nat → Nat} {ep : Nat → Nat → Option Nat} {ba : Nat} {dy : Nat} {iv : Nat → Nat → Nat} {dv : Nat → Nat → Nat} (HRW : RW n fk fs) (HSW : SW len fw) (HDW : DW ds dr) (HTW : TW mc th rc ck pm ep) (HB : ba ≤ 50) (HK : KW iv dv) (HI : IW iv) (hdy : dy ≤ 100 * i) (HX : LX κ x0 n fk fs len fw ds dr mc th rc ck pm ep ba dy iv dv wx) (HM : LM κ u0 t9 n fk fs len fw ds dr mc th rc ck pm ep ba dy iv dv wm) (KN : NX p l e s m below meth c κ b x0 u0 o0 i) : LG p l e s m below meth c κ b x0 u0 o0 i 268 (100 + 10 * i) (2000 + 50 * i) wx ou wm := by
  obtain ⟨C, YY, hX, hbl, hL, hst⟩ := hlc
  have hA : ∀ q, s.heap.size ≤ q → (fun q => s.heap.size ≤ q) q := fun _ h => h
  have hbA : ¬ (fun q => s.heap.size ≤ q) b := Nat.not_le.mpr hbl
  refine g_aload_n (pc' := 269) C 3 dL_law_268 rfl rfl rfl ?_
  refine g_aload_n (pc' := 270) C 4 dL_law_269 rfl rfl rfl ?_
  refine g_iload (pc' := 272) C 0 dL_law_270 rfl rfl ?_
  refine g_iconst (pc' := 273) (v := nI 1) C dL_law_272 (by decide) rfl ?_
  refine g_iadd (pc' := 274) (v := nI ((5 * i) + 1)) C dL_law_273 (nI_add _ _) rfl ?_
  refine g_sld (pc' := 275) C hX hbl hbA ((5 * i) + 1) (by omega) (by omega) dL_law_274 rfl ?_
  refine g_aload_n (pc' := 276) C 4 dL_law_275 rfl rfl rfl ?_
  refine g_iload (pc' := 278) C 0 dL_law_276 rfl rfl ?_
  refine g_iconst (pc' := 279) (v := nI 2) C dL_law_278 (by decide) rfl ?_
  refine g_iadd (pc' := 280) (v := nI ((5 * i) + 2)) C dL_law_279 (nI_add _ _) rfl ?_
  refine g_sld (pc' := 281) C hX hbl hbA ((5 * i) + 2) (by omega) (by omega) dL_law_280 rfl ?_
  refine g_aload_n (pc' := 282) C 1 dL_law_281 rfl rfl rfl ?_
  refine g_fHi (pc' := 285) (wr := wm) (wc := wx ++ outW κ o0 ou) C hA YY lh_isForm (hX_isForm l hst κ x0 o0 ou (xs ((5 * i) + 1)) (xs ((5 * i) + 2)) HRW HSW HDW HTW HB HK HI (by omega) HX) List.perm_append_comm rfl (Nat.le_of_ble_eq_true rfl) ⟨(by show 2 + 9 ≤ 2048; decide), (by show 219 + 5 + 40 * 2 ≤ 84000; decide)⟩ ⟨(by show _ ≤ 788806; omega), (by show _ ≤ 6729686; omega)⟩ rfl dL_law_282 rfl (fun r9 w9 h9 => ?_)
  rcases h9 with ⟨hc, rfl, w2, ou2, hp2, HX2, ho2⟩ | ⟨hc, rfl, w2, ou2, hp2, HX2⟩
  · refine g_perm (ws' := ((w2 ++ outW κ o0 ou2) ++ wm)) (List.perm_append_comm.trans (hp2.append_right wm)) ?_
    refine g_istore (pc' := 287) (lv' := [(5, .int (nI 0)), (4, .int (nI (5 * i))), (3, .ref o0), (2, .ref u0), (1, .ref x0), (0, .ref b)]) C dL_law_285 (by decide) rfl rfl ?_
    refine g_aload_n (pc' := 288) C 3 dL_law_287 rfl rfl rfl ?_
    refine g_aload_n (pc' := 289) C 5 dL_law_288 rfl rfl rfl ?_
    refine g_iload (pc' := 291) C 1 dL_law_289 rfl rfl ?_
    refine g_iconst (pc' := 292) (v := nI 1) C dL_law_291 (by decide) rfl ?_
    refine g_iadd (pc' := 293) (v := nI ((5 * i) + 1)) C dL_law_292 (nI_add _ _) rfl ?_
    refine g_sld (pc' := 294) C hX hbl hbA ((5 * i) + 1) (by omega) (by omega) dL_law_293 rfl ?_
    refine g_aload_n (pc' := 295) C 5 dL_law_294 rfl rfl rfl ?_
    refine g_iload (pc' := 297) C 1 dL_law_295 rfl rfl ?_
    refine g_iconst (pc' := 298) (v := nI 2) C dL_law_297 (by decide) rfl ?_
    refine g_iadd (pc' := 299) (v := nI ((5 * i) + 2)) C dL_law_298 (nI_add _ _) rfl ?_
    refine g_sld (pc' := 300) C hX hbl hbA ((5 * i) + 2) (by omega) (by omega) dL_law_299 rfl ?_
    obtain ⟨qm, fm9, hqm⟩ := LM.recv HM
    refine g_fMi (pc' := 303) (wr := w2 ++ outW κ o0 ou2) (wc := wm) C hA lk_RL_96 (hM_isForm l κ u0 (xs ((5 * i) + 1)) (xs ((5 * i) + 2)) HRW HSW HDW HTW HB HK HI (by omega) HM) (List.Perm.refl _) qm hqm rfl rfl (Nat.le_of_ble_eq_true rfl) ⟨(by show 2 + 9 ≤ 2048; decide), (by show 219 + 3 + 40 * 2 ≤ 84000; decide)⟩ ⟨(by show _ ≤ 788806; omega), (by show _ ≤ 6729686; omega)⟩ rfl dL_law_300 rfl (fun r6 w6 h6 => ?_)
    obtain ⟨HM6, hr6⟩ := h6.1 hc
    clear h6
    refine g_istore (pc' := 305) (lv' := [(6, .int r6), (5, .int (nI 0)), (4, .int (nI (5 * i))), (3, .ref o0), (2, .ref u0), (1, .ref x0), (0, .ref b)]) C dL_law_303 (by decide) rfl rfl ?_
    refine g_aload_n (pc' := 306) C 4 dL_law_305 rfl rfl rfl ?_
    obtain ⟨qt, ft, hqt⟩ := LM.recv HM6
    refine g_fP (pc' := 309) C lk_RL_86 (hM_thrown l κ u0 HM6) (fun q hq => List.mem_append_right _ hq) qt hqt rfl rfl (Nat.le_of_ble_eq_true rfl) ⟨(by show 0 + 9 ≤ 2048; decide), (by show 219 + 1 + 40 * 0 ≤ 84000; decide)⟩ ⟨(by show _ ≤ 788806; omega), (by show _ ≤ 6729686; omega)⟩ rfl dL_law_306 rfl (fun r8 h8 => ?_)
    obtain rfl : r8 = nI 0 := h8
    refine g_iload (pc' := 311) C 1 dL_law_309 rfl rfl ?_
    refine g_icmp_eqN (pc' := 314) (tgt := 316) C (by first | assumption | omega) (by first | assumption | omega) dL_law_311 (by decide) rfl (fun _ => ?_) (fun z => absurd z (by decide))
    refine g_iload (pc' := 318) C 1 dL_law_316 rfl rfl ?_
    refine g_if_neN (pc' := 321) (tgt := 340) C (by first | assumption | omega) dL_law_318 (by decide) rfl (fun z => absurd z (by decide)) (fun _ => ?_)
    refine g_aload_n (pc' := 322) C 3 dL_law_321 rfl rfl rfl ?_
    refine g_iconst (pc' := 323) (v := nI 0) C dL_law_322 (by decide) rfl ?_
    refine g_lald (pc' := 324) C (w2).length out_at 0 (by decide) (by decide) dL_law_323 rfl ?_
    refine g_iload (pc' := 326) C 0 dL_law_324 rfl rfl ?_
    refine g_if_eq (pc' := 329) (tgt := 333) C dL_law_326 (by decide) rfl (fun c_326_3 => ?_) (fun c_326_3 => ?_)
    · refine g_lconst (pc' := 334) (v := 0) C dL_law_333 (by decide) rfl ?_
      refine g_lcmp (pc' := 335) C dL_law_334 rfl ?_
      refine g_val (y := nI 0) (lg_b0 ho2 hr6 c_326_3) ?_
      refine g_if_eqN (pc' := 338) (tgt := 340) C (by first | assumption | omega) dL_law_335 (by decide) rfl (fun _ => ?_) (fun z => absurd z (by decide))
      refine g_goto (tgt := 1355) C dL_law_340 (by decide) ?_
      refine g_lv (lv' := [(4, .int (nI (5 * i))), (3, .ref o0), (2, .ref u0), (1, .ref x0), (0, .ref b)]) [2, 3, 4, 5, 6] rfl ?_
      refine g_widen (k' := 100 + 10 * (i + 1)) (n' := 2000 + 50 * (i + 1)) (by omega) (by omega) ?_
      exact KN _ _ _ _ _ _ _ _ _ _ _ _ _ _ _ _ _ _ _ _ _ HRW HSW HDW HTW HB HK HI (by omega) HX2 HM6
    · refine g_lconst (pc' := 330) (v := 1) C dL_law_329 (by decide) rfl ?_
      refine g_goto (tgt := 334) C dL_law_330 (by decide) ?_
      refine g_lcmp (pc' := 335) C dL_law_334 rfl ?_
      refine g_val (y := nI 0) (lg_b1 ho2 hr6 c_326_3) ?_
      refine g_if_eqN (pc' := 338) (tgt := 340) C (by first | assumption | omega) dL_law_335 (by decide) rfl (fun _ => ?_) (fun z => absurd z (by decide))
      refine g_goto (tgt := 1355) C dL_law_340 (by decide) ?_
      refine g_lv (lv' := [(4, .int (nI (5 * i))), (3, .ref o0), (2, .ref u0), (1, .ref x0), (0, .ref b)]) [2, 3, 4, 5, 6] rfl ?_
      refine g_widen (k' := 100 + 10 * (i + 1)) (n' := 2000 + 50 * (i + 1)) (by omega) (by omega) ?_
      exact KN _ _ _ _ _ _ _ _ _ _ _ _ _ _ _ _ _ _ _ _ _ HRW HSW HDW HTW HB HK HI (by omega) HX2 HM6
  · refine g_perm (ws' := ((w2 ++ outW κ o0 ou2) ++ wm)) (List.perm_append_comm.trans (hp2.append_right wm)) ?_
    refine g_istore (pc' := 287) (lv' := [(5, .int (nI (c_isForm (xs ((5 * i) + 1)) (xs ((5 * i) + 2))))), (4, .int (nI (5 * i))), (3, .ref o0), (2, .ref u0), (1, .ref x0), (0, .ref b)]) C dL_law_285 (by decide) rfl rfl ?_
    refine g_aload_n (pc' := 288) C 3 dL_law_287 rfl rfl rfl ?_
    refine g_aload_n (pc' := 289) C 5 dL_law_288 rfl rfl rfl ?_
    refine g_iload (pc' := 291) C 1 dL_law_289 rfl rfl ?_
    refine g_iconst (pc' := 292) (v := nI 1) C dL_law_291 (by decide) rfl ?_
    refine g_iadd (pc' := 293) (v := nI ((5 * i) + 1)) C dL_law_292 (nI_add _ _) rfl ?_
    refine g_sld (pc' := 294) C hX hbl hbA ((5 * i) + 1) (by omega) (by omega) dL_law_293 rfl ?_
    refine g_aload_n (pc' := 295) C 5 dL_law_294 rfl rfl rfl ?_
    refine g_iload (pc' := 297) C 1 dL_law_295 rfl rfl ?_
    refine g_iconst (pc' := 298) (v := nI 2) C dL_law_297 (by decide) rfl ?_
    refine g_iadd (pc' := 299) (v := nI ((5 * i) + 2)) C dL_law_298 (nI_add _ _) rfl ?_
    refine g_sld (pc' := 300) C hX hbl hbA ((5 * i) + 2) (by omega) (by omega) dL_law_299 rfl ?_
    obtain ⟨qm, fm9, hqm⟩ := LM.recv HM
    refine g_fMi (pc' := 303) (wr := w2 ++ outW κ o0 ou2) (wc := wm) C hA lk_RL_96 (hM_isForm l κ u0 (xs ((5 * i) + 1)) (xs ((5 * i) + 2)) HRW HSW HDW HTW HB HK HI (by omega) HM) (List.Perm.refl _) qm hqm rfl rfl (Nat.le_of_ble_eq_true rfl) ⟨(by show 2 + 9 ≤ 2048; decide), (by show 219 + 3 + 40 * 2 ≤ 84000; decide)⟩ ⟨(by show _ ≤ 788806; omega), (by show _ ≤ 6729686; omega)⟩ rfl dL_law_300 rfl (fun r6 w6 h6 => ?_)
    have HM6 := h6.2 hc
    clear h6
    refine g_istore (pc' := 305) (lv' := [(6, .int r6), (5, .int (nI (c_isForm (xs ((5 * i) + 1)) (xs ((5 * i) + 2))))), (4, .int (nI (5 * i))), (3, .ref o0), (2, .ref u0), (1, .ref x0), (0, .ref b)]) C dL_law_303 (by decide) rfl rfl ?_
    refine g_aload_n (pc' := 306) C 4 dL_law_305 rfl rfl rfl ?_
    obtain ⟨qt, ft, hqt⟩ := LM.recv HM6
    refine g_fP (pc' := 309) C lk_RL_86 (hM_thrown l κ u0 HM6) (fun q hq => List.mem_append_right _ hq) qt hqt rfl rfl (Nat.le_of_ble_eq_true rfl) ⟨(by show 0 + 9 ≤ 2048; decide), (by show 219 + 1 + 40 * 0 ≤ 84000; decide)⟩ ⟨(by show _ ≤ 788806; omega), (by show _ ≤ 6729686; omega)⟩ rfl dL_law_306 rfl (fun r8 h8 => ?_)
    obtain rfl : r8 = nI (c_isForm (xs ((5 * i) + 1)) (xs ((5 * i) + 2))) := h8
    refine g_iload (pc' := 311) C 1 dL_law_309 rfl rfl ?_
    refine g_icmp_eq (pc' := 314) (tgt := 316) C dL_law_311 (by decide) rfl (fun c_311_6 => ?_) (fun c_311_6 => absurd c_311_6 (by exact fun q => q rfl))
    refine g_iload (pc' := 318) C 1 dL_law_316 rfl rfl ?_
    refine g_if_ne (pc' := 321) (tgt := 340) C dL_law_318 (by decide) rfl (fun c_318_7 => ?_) (fun c_318_7 => absurd c_318_7 (by exact nI_c0 hc cb_isForm))
    refine g_goto (tgt := 1355) C dL_law_340 (by decide) ?_
    refine g_lv (lv' := [(4, .int (nI (5 * i))), (3, .ref o0), (2, .ref u0), (1, .ref x0), (0, .ref b)]) [2, 3, 4, 5, 6] rfl ?_
    refine g_widen (k' := 100 + 10 * (i + 1)) (n' := 2000 + 50 * (i + 1)) (by omega) (by omega) ?_
    exact KN _ _ _ _ _ _ _ _ _ _ _ _ _ _ _ _ _ _ _ _ _ HRW HSW HDW HTW HB HK HI (by omega) HX2 HM6

set_option maxHeartbeats 4000000 in
set_option maxRecDepth 100000 in
theorem law_part (hlc : LC l p s m meth c κ b L xs) (i : Nat) (hi : 5 * i + 5 ≤ L) {t9 : Nat} {wx wm : va_W} {ou : Nat → Int64} {n : Nat} {fk : Nat → Nat} {fs : Nat → Nat} {len : Nat} {fw : Nat → Nat} {ds : Nat} {dr : Nat → Option Nat} {mc : Nat} {th : Nat → Bool} {rc : Nat → Option Nat} {ck : Nat → Nat} {pm : Nat → Nat} {ep : Nat → Nat → Option Nat} {ba : Nat} {dy : Nat} {iv : Nat → Nat → Nat} {dv : Nat → Nat → Nat} (HRW : RW n fk fs) (HSW : SW len fw) (HDW : DW ds dr) (HTW : TW mc th rc ck pm ep) (HB : ba ≤ 50) (HK : KW iv dv) (HI : IW iv) (hdy : dy ≤ 100 * i) (HX : LX κ x0 n fk fs len fw ds dr mc th rc ck pm ep ba dy iv dv wx) (HM : LM κ u0 t9 n fk fs len fw ds dr mc th rc ck pm ep ba dy iv dv wm) (KN : NX p l e s m below meth c κ b x0 u0 o0 i) : LG p l e s m below meth c κ b x0 u0 o0 i 343 (100 + 10 * i) (2000 + 50 * i) wx ou wm := by
  obtain ⟨C, YY, hX, hbl, hL, hst⟩ := hlc
  have hA : ∀ q, s.heap.size ≤ q → (fun q => s.heap.size ≤ q) q := fun _ h => h
  have hbA : ¬ (fun q => s.heap.size ≤ q) b := Nat.not_le.mpr hbl
  refine g_aload_n (pc' := 344) C 3 dL_law_343 rfl rfl rfl ?_
  refine g_aload_n (pc' := 345) C 4 dL_law_344 rfl rfl rfl ?_
  refine g_iload (pc' := 347) C 0 dL_law_345 rfl rfl ?_
  refine g_iconst (pc' := 348) (v := nI 1) C dL_law_347 (by decide) rfl ?_
  refine g_iadd (pc' := 349) (v := nI ((5 * i) + 1)) C dL_law_348 (nI_add _ _) rfl ?_
  refine g_sld (pc' := 350) C hX hbl hbA ((5 * i) + 1) (by omega) (by omega) dL_law_349 rfl ?_
  refine g_aload_n (pc' := 351) C 1 dL_law_350 rfl rfl rfl ?_
  refine g_fHi (pc' := 354) (wr := wm) (wc := wx ++ outW κ o0 ou) C hA YY lh_part (hX_part l hst κ x0 o0 ou (xs ((5 * i) + 1)) HRW HSW HDW HTW HB HK HI (by omega) HX) List.perm_append_comm rfl (Nat.le_of_ble_eq_true rfl) ⟨(by show 2 + 9 ≤ 2048; decide), (by show 219 + 4 + 40 * 2 ≤ 84000; decide)⟩ ⟨(by show _ ≤ 788806; omega), (by show _ ≤ 6729686; omega)⟩ rfl dL_law_351 rfl (fun r9 w9 h9 => ?_)
  rcases h9 with ⟨hc, rfl, w2, ou2, hp2, HX2, ho2⟩ | ⟨hc, rfl, w2, ou2, hp2, HX2⟩
  · refine g_perm (ws' := ((w2 ++ outW κ o0 ou2) ++ wm)) (List.perm_append_comm.trans (hp2.append_right wm)) ?_
    refine g_istore (pc' := 356) (lv' := [(5, .int (nI 0)), (4, .int (nI (5 * i))), (3, .ref o0), (2, .ref u0), (1, .ref x0), (0, .ref b)]) C dL_law_354 (by decide) rfl rfl ?_
    refine g_aload_n (pc' := 357) C 3 dL_law_356 rfl rfl rfl ?_
    refine g_aload_n (pc' := 358) C 5 dL_law_357 rfl rfl rfl ?_
    refine g_iload (pc' := 360) C 1 dL_law_358 rfl rfl ?_
    refine g_iconst (pc' := 361) (v := nI 1) C dL_law_360 (by decide) rfl ?_
    refine g_iadd (pc' := 362) (v := nI ((5 * i) + 1)) C dL_law_361 (nI_add _ _) rfl ?_
    refine g_sld (pc' := 363) C hX hbl hbA ((5 * i) + 1) (by omega) (by omega) dL_law_362 rfl ?_
    obtain ⟨qm, fm9, hqm⟩ := LM.recv HM
    refine g_fMi (pc' := 366) (wr := w2 ++ outW κ o0 ou2) (wc := wm) C hA lk_RL_99 (hM_part l κ u0 (xs ((5 * i) + 1)) HRW HSW HDW HTW HB HK HI (by omega) HM) (List.Perm.refl _) qm hqm rfl rfl (Nat.le_of_ble_eq_true rfl) ⟨(by show 2 + 9 ≤ 2048; decide), (by show 219 + 2 + 40 * 2 ≤ 84000; decide)⟩ ⟨(by show _ ≤ 788806; omega), (by show _ ≤ 6729686; omega)⟩ rfl dL_law_363 rfl (fun r6 w6 h6 => ?_)
    obtain ⟨HM6, hr6⟩ := h6.1 hc
    clear h6
    refine g_istore (pc' := 368) (lv' := [(6, .int r6), (5, .int (nI 0)), (4, .int (nI (5 * i))), (3, .ref o0), (2, .ref u0), (1, .ref x0), (0, .ref b)]) C dL_law_366 (by decide) rfl rfl ?_
    refine g_aload_n (pc' := 369) C 4 dL_law_368 rfl rfl rfl ?_
    obtain ⟨qt, ft, hqt⟩ := LM.recv HM6
    refine g_fP (pc' := 372) C lk_RL_86 (hM_thrown l κ u0 HM6) (fun q hq => List.mem_append_right _ hq) qt hqt rfl rfl (Nat.le_of_ble_eq_true rfl) ⟨(by show 0 + 9 ≤ 2048; decide), (by show 219 + 1 + 40 * 0 ≤ 84000; decide)⟩ ⟨(by show _ ≤ 788806; omega), (by show _ ≤ 6729686; omega)⟩ rfl dL_law_369 rfl (fun r8 h8 => ?_)
    obtain rfl : r8 = nI 0 := h8
    refine g_iload (pc' := 374) C 1 dL_law_372 rfl rfl ?_
    refine g_icmp_eqN (pc' := 377) (tgt := 379) C (by first | assumption | omega) (by first | assumption | omega) dL_law_374 (by decide) rfl (fun _ => ?_) (fun z => absurd z (by decide))
    refine g_iload (pc' := 381) C 1 dL_law_379 rfl rfl ?_
    refine g_if_neN (pc' := 384) (tgt := 396) C (by first | assumption | omega) dL_law_381 (by decide) rfl (fun z => absurd z (by decide)) (fun _ => ?_)
    refine g_aload_n (pc' := 385) C 3 dL_law_384 rfl rfl rfl ?_
    refine g_iconst (pc' := 386) (v := nI 0) C dL_law_385 (by decide) rfl ?_
    refine g_lald (pc' := 387) C (w2).length out_at 0 (by decide) (by decide) dL_law_386 rfl ?_
    refine g_iload (pc' := 389) C 0 dL_law_387 rfl rfl ?_
    refine g_i2l (pc' := 390) (v := (r6).toInt64) C dL_law_389 rfl rfl ?_
    refine g_lcmp (pc' := 391) C dL_law_390 rfl ?_
    refine g_val (y := nI 0) (lg_o ho2 hr6) ?_
    refine g_if_eqN (pc' := 394) (tgt := 396) C (by first | assumption | omega) dL_law_391 (by decide) rfl (fun _ => ?_) (fun z => absurd z (by decide))
    refine g_goto (tgt := 1355) C dL_law_396 (by decide) ?_
    refine g_lv (lv' := [(4, .int (nI (5 * i))), (3, .ref o0), (2, .ref u0), (1, .ref x0), (0, .ref b)]) [2, 3, 4, 5, 6] rfl ?_
    refine g_widen (k' := 100 + 10 * (i + 1)) (n' := 2000 + 50 * (i + 1)) (by omega) (by omega) ?_
    exact KN _ _ _ _ _ _ _ _ _ _ _ _ _ _ _ _ _ _ _ _ _ HRW HSW (DW_part HDW hc) HTW HB HK HI (by omega) HX2 HM6
  · refine g_perm (ws' := ((w2 ++ outW κ o0 ou2) ++ wm)) (List.perm_append_comm.trans (hp2.append_right wm)) ?_
    refine g_istore (pc' := 356) (lv' := [(5, .int (nI (c_part (xs ((5 * i) + 1)) ds))), (4, .int (nI (5 * i))), (3, .ref o0), (2, .ref u0), (1, .ref x0), (0, .ref b)]) C dL_law_354 (by decide) rfl rfl ?_
    refine g_aload_n (pc' := 357) C 3 dL_law_356 rfl rfl rfl ?_
    refine g_aload_n (pc' := 358) C 5 dL_law_357 rfl rfl rfl ?_
    refine g_iload (pc' := 360) C 1 dL_law_358 rfl rfl ?_
    refine g_iconst (pc' := 361) (v := nI 1) C dL_law_360 (by decide) rfl ?_
    refine g_iadd (pc' := 362) (v := nI ((5 * i) + 1)) C dL_law_361 (nI_add _ _) rfl ?_
    refine g_sld (pc' := 363) C hX hbl hbA ((5 * i) + 1) (by omega) (by omega) dL_law_362 rfl ?_
    obtain ⟨qm, fm9, hqm⟩ := LM.recv HM
    refine g_fMi (pc' := 366) (wr := w2 ++ outW κ o0 ou2) (wc := wm) C hA lk_RL_99 (hM_part l κ u0 (xs ((5 * i) + 1)) HRW HSW HDW HTW HB HK HI (by omega) HM) (List.Perm.refl _) qm hqm rfl rfl (Nat.le_of_ble_eq_true rfl) ⟨(by show 2 + 9 ≤ 2048; decide), (by show 219 + 2 + 40 * 2 ≤ 84000; decide)⟩ ⟨(by show _ ≤ 788806; omega), (by show _ ≤ 6729686; omega)⟩ rfl dL_law_363 rfl (fun r6 w6 h6 => ?_)
    have HM6 := h6.2 hc
    clear h6
    refine g_istore (pc' := 368) (lv' := [(6, .int r6), (5, .int (nI (c_part (xs ((5 * i) + 1)) ds))), (4, .int (nI (5 * i))), (3, .ref o0), (2, .ref u0), (1, .ref x0), (0, .ref b)]) C dL_law_366 (by decide) rfl rfl ?_
    refine g_aload_n (pc' := 369) C 4 dL_law_368 rfl rfl rfl ?_
    obtain ⟨qt, ft, hqt⟩ := LM.recv HM6
    refine g_fP (pc' := 372) C lk_RL_86 (hM_thrown l κ u0 HM6) (fun q hq => List.mem_append_right _ hq) qt hqt rfl rfl (Nat.le_of_ble_eq_true rfl) ⟨(by show 0 + 9 ≤ 2048; decide), (by show 219 + 1 + 40 * 0 ≤ 84000; decide)⟩ ⟨(by show _ ≤ 788806; omega), (by show _ ≤ 6729686; omega)⟩ rfl dL_law_369 rfl (fun r8 h8 => ?_)
    obtain rfl : r8 = nI (c_part (xs ((5 * i) + 1)) ds) := h8
    refine g_iload (pc' := 374) C 1 dL_law_372 rfl rfl ?_
    refine g_icmp_eq (pc' := 377) (tgt := 379) C dL_law_374 (by decide) rfl (fun c_374_4 => ?_) (fun c_374_4 => absurd c_374_4 (by exact fun q => q rfl))
    refine g_iload (pc' := 381) C 1 dL_law_379 rfl rfl ?_
    refine g_if_ne (pc' := 384) (tgt := 396) C dL_law_381 (by decide) rfl (fun c_381_5 => ?_) (fun c_381_5 => absurd c_381_5 (by exact nI_c0 hc cb_part))
    refine g_goto (tgt := 1355) C dL_law_396 (by decide) ?_
    refine g_lv (lv' := [(4, .int (nI (5 * i))), (3, .ref o0), (2, .ref u0), (1, .ref x0), (0, .ref b)]) [2, 3, 4, 5, 6] rfl ?_
    refine g_widen (k' := 100 + 10 * (i + 1)) (n' := 2000 + 50 * (i + 1)) (by omega) (by omega) ?_
    exact KN _ _ _ _ _ _ _ _ _ _ _ _ _ _ _ _ _ _ _ _ _ HRW HSW HDW HTW HB HK HI (by omega) HX2 HM6
end LAW
