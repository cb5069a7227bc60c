section LOOP
variable {p : Program} {l : Launch} {e : Env} {s : State} {m : MethodId} {below : List Frame} {meth : Method} {c : Code} {κ : KK} {b L x0 u0 o0 : Nat} {xs : Nat → Int32}
theorem law_end (hlc : LC l p s m meth c κ b L xs) {ws : va_W} {k n : Nat} {lv : List (Nat × Value)} (hk : k ≤ 788806) (hn : n ≤ 6729686) : G p l e room_1 s m #[Value.ref b] below meth c κ 7 (JM (fun q => s.heap.size ≤ q) s) ws k n (lw_Z below #[Value.ref b] s) 1362 lv [.int 1] := by
  obtain ⟨C, -, -, -, -, -⟩ := hlc
  exact fun H locs ls hP hJ hl => va_forget (fun q hq => hJ.2.2.2 q hq) (W.widen hk hn (lw_ret C.1 C.2.1 C.2.2.2.1 C.2.2.2.2.1 dL_law_1362))
set_option maxHeartbeats 4000000 in
set_option maxRecDepth 100000 in
theorem law_loop (hlc : LC l p s m meth c κ b L xs) : ∀ (fu i t9 : Nat) (wx : va_W) (ou : Nat → Int64) (wm : va_W) (n : Nat) (fk : Nat → Nat) (fs : Nat → Nat) (len : Nat) (fw : Nat → Nat) (ds : Nat) (dr : Nat → Option Nat) (mc : Nat) (th : Nat → Bool) (rc : Nat → Option Nat) (ck : Nat → Nat) (pm : Nat → Nat) (ep : Nat → Nat → Option Nat) (ba : Nat) (dy : Nat) (iv : Nat → Nat → Nat) (dv : Nat → Nat → Nat), L - 5 * i < fu → 5 * i ≤ L → RW n fk fs → SW len fw → DW ds dr → TW mc th rc ck pm ep → ba ≤ 50 → KW iv dv → IW iv → dy ≤ 100 * i → LX κ x0 n fk fs len fw ds dr mc th rc ck pm ep ba dy iv dv wx → LM κ u0 t9 n fk fs len fw ds dr mc th rc ck pm ep ba dy iv dv wm → LG p l e s m below meth c κ b x0 u0 o0 i 23 (100 + 10 * i) (2000 + 50 * i) wx ou wm := by
  have hlc0 := hlc
  obtain ⟨C, YY, hX, hbl, hL, hst⟩ := hlc
  have hbA : ¬ (fun q => s.heap.size ≤ q) b := Nat.not_le.mpr hbl
  intro fu
  induction fu with
  | zero => intro i t9 wx ou wm n fk fs len fw ds dr mc th rc ck pm ep ba dy iv dv hmu; exact absurd hmu (Nat.not_lt_zero _)
  | succ fu ih =>
    intro i t9 wx ou wm n fk fs len fw ds dr mc th rc ck pm ep ba dy iv dv hmu hi HRW HSW HDW HTW HB HK HI hdy HX HM
    refine g_iload (pc' := 25) C 0 dL_law_23 rfl rfl ?_
    refine g_aload_n (pc' := 26) C 4 dL_law_25 rfl rfl rfl ?_
    refine g_slen (pc' := 27) C hX hbl hbA dL_law_26 rfl ?_
    refine g_iconst (pc' := 28) (v := nI 5) C dL_law_27 (by decide) rfl ?_
    refine g_isub (pc' := 29) (v := zI ((L : Int) - 5)) C dL_law_28 (nZ_sub _ _) rfl ?_
    refine g_icmp_gt (pc' := 32) (tgt := 1361) C dL_law_29 (by decide) rfl (fun c1 => ?_) (fun c1 => ?_)
    · refine g_iconst (pc' := 1362) (v := 1) C dL_law_1361 (by decide) rfl ?_
      exact law_end hlc0 (by omega) (by omega)
    · rw [z_ltN (by omega) (by omega)] at c1
      have h5 : 5 * i + 5 ≤ L := by omega
      refine g_aload_n (pc' := 33) C 4 dL_law_32 rfl rfl rfl ?_
      refine g_iload (pc' := 35) C 0 dL_law_33 rfl rfl ?_
      refine g_sld (pc' := 36) C hX hbl hbA (5 * i) (by omega) (by omega) dL_law_35 rfl ?_
      refine g_bipush (pc' := 38) (v := nI 31) C dL_law_36 (by decide) rfl ?_
      refine g_iand (pc' := 39) (v := xs (5 * i) &&& nI 31) C dL_law_38 rfl rfl ?_
      obtain ⟨v, hv, ev⟩ := and31 (xs (5 * i))
      refine g_val (y := nI v) ev ?_
      have KN : NX p l e s m below meth c κ b x0 u0 o0 i := by
        intro t9 wx ou wm n fk fs len fw ds dr mc th rc ck pm ep ba dy iv dv HRW HSW HDW HTW HB HK HI hdy HX HM
        refine g_iinc (pc' := 1358) (v := nI (5 * (i + 1))) (lv' := lvH (i + 1) x0 u0 o0 b) C 0 dL_law_1355 rfl (by rw [show 5 * (i + 1) = 5 * i + 5 by omega]; exact iincN5 _) (by decide) rfl rfl ?_
        refine g_goto (tgt := 23) C dL_law_1358 (by decide) ?_
        exact ih (i + 1) t9 wx ou wm n fk fs len fw ds dr mc th rc ck pm ep ba dy iv dv (by omega) (by omega) HRW HSW HDW HTW HB HK HI hdy HX HM
      rcases (show v = 0 ∨ v = 1 ∨ v = 2 ∨ v = 3 ∨ v = 4 ∨ v = 5 ∨ v = 6 ∨ v = 7 ∨ v = 8 ∨ v = 9 ∨ v = 10 ∨ v = 11 ∨ v = 12 ∨ v = 13 ∨ v = 14 ∨ v = 15 ∨ v = 16 ∨ v = 17 ∨ v = 18 ∨ v = 19 ∨ v = 20 ∨ v = 21 ∨ v = 22 ∨ 22 < v by omega) with rfl | rfl | rfl | rfl | rfl | rfl | rfl | rfl | rfl | rfl | rfl | rfl | rfl | rfl | rfl | rfl | rfl | rfl | rfl | rfl | rfl | rfl | rfl | hv2
      · exact g_tabIn (tgt := 144) (off := 105) C dL_law_39 (by decide) (by decide) (by decide) (by decide) (law_addRule hlc0 i h5 HRW HSW HDW HTW HB HK HI hdy HX HM KN)
      · exact g_tabIn (tgt := 212) (off := 173) C dL_law_39 (by decide) (by decide) (by decide) (by decide) (law_headwords hlc0 i h5 HRW HSW HDW HTW HB HK HI hdy HX HM KN)
      · exact g_tabIn (tgt := 268) (off := 229) C dL_law_39 (by decide) (by decide) (by decide) (by decide) (law_isForm hlc0 i h5 HRW HSW HDW HTW HB HK HI hdy HX HM KN)
      · exact g_tabIn (tgt := 343) (off := 304) C dL_law_39 (by decide) (by decide) (by decide) (by decide) (law_part hlc0 i h5 HRW HSW HDW HTW HB HK HI hdy HX HM KN)
      · exact g_tabIn (tgt := 399) (off := 360) C dL_law_39 (by decide) (by decide) (by decide) (by decide) (law_addPhrase hlc0 i h5 HRW HSW HDW HTW HB HK HI hdy HX HM KN)
      · exact g_tabIn (tgt := 455) (off := 416) C dL_law_39 (by decide) (by decide) (by decide) (by decide) (law_addSplit hlc0 i h5 HRW HSW HDW HTW HB HK HI hdy HX HM KN)
      · exact g_tabIn (tgt := 547) (off := 508) C dL_law_39 (by decide) (by decide) (by decide) (by decide) (law_takeOut hlc0 i h5 HRW HSW HDW HTW HB HK HI hdy HX HM KN)
      · exact g_tabIn (tgt := 603) (off := 564) C dL_law_39 (by decide) (by decide) (by decide) (by decide) (law_entries hlc0 i h5 HRW HSW HDW HTW HB HK HI hdy HX HM KN)
      · exact g_tabIn (tgt := 616) (off := 577) C dL_law_39 (by decide) (by decide) (by decide) (by decide) (law_say hlc0 i h5 HRW HSW HDW HTW HB HK HI hdy HX HM KN)
      · exact g_tabIn (tgt := 672) (off := 633) C dL_law_39 (by decide) (by decide) (by decide) (by decide) (law_clear hlc0 i h5 HRW HSW HDW HTW HB HK HI hdy HX HM KN)
      · exact g_tabIn (tgt := 685) (off := 646) C dL_law_39 (by decide) (by decide) (by decide) (by decide) (law_setBare hlc0 i h5 HRW HSW HDW HTW HB HK HI hdy HX HM KN)
      · exact g_tabIn (tgt := 741) (off := 702) C dL_law_39 (by decide) (by decide) (by decide) (by decide) (law_standings hlc0 i h5 HRW HSW HDW HTW HB HK HI hdy HX HM KN)
      · exact g_tabIn (tgt := 754) (off := 715) C dL_law_39 (by decide) (by decide) (by decide) (by decide) (law_cost hlc0 i h5 HRW HSW HDW HTW HB HK HI hdy HX HM KN)
      · exact g_tabIn (tgt := 767) (off := 728) C dL_law_39 (by decide) (by decide) (by decide) (by decide) (law_costByAll hlc0 i h5 HRW HSW HDW HTW HB HK HI hdy HX HM KN)
      · exact g_tabIn (tgt := 780) (off := 741) C dL_law_39 (by decide) (by decide) (by decide) (by decide) (law_glossAt hlc0 i h5 HRW HSW HDW HTW HB HK HI hdy HX HM KN)
      · exact g_tabIn (tgt := 836) (off := 797) C dL_law_39 (by decide) (by decide) (by decide) (by decide) (law_placesAt hlc0 i h5 HRW HSW HDW HTW HB HK HI hdy HX HM KN)
      · exact g_tabIn (tgt := 892) (off := 853) C dL_law_39 (by decide) (by decide) (by decide) (by decide) (law_newEntries hlc0 i h5 HRW HSW HDW HTW HB HK HI hdy HX HM KN)
      · exact g_tabIn (tgt := 948) (off := 909) C dL_law_39 (by decide) (by decide) (by decide) (by decide) (law_learn hlc0 i h5 HRW HSW HDW HTW HB HK HI hdy HX HM KN)
      · exact g_tabIn (tgt := 1016) (off := 977) C dL_law_39 (by decide) (by decide) (by decide) (by decide) (law_review hlc0 i h5 HRW HSW HDW HTW HB HK HI hdy HX HM KN)
      · exact g_tabIn (tgt := 1112) (off := 1073) C dL_law_39 (by decide) (by decide) (by decide) (by decide) (law_knows hlc0 i h5 HRW HSW HDW HTW HB HK HI hdy HX HM KN)
      · exact g_tabIn (tgt := 1187) (off := 1148) C dL_law_39 (by decide) (by decide) (by decide) (by decide) (law_due hlc0 i h5 HRW HSW HDW HTW HB HK HI hdy HX HM KN)
      · exact g_tabIn (tgt := 1243) (off := 1204) C dL_law_39 (by decide) (by decide) (by decide) (by decide) (law_nextDue hlc0 i h5 HRW HSW HDW HTW HB HK HI hdy HX HM KN)
      · exact g_tabIn (tgt := 1299) (off := 1260) C dL_law_39 (by decide) (by decide) (by decide) (by decide) (law_pass hlc0 i h5 HRW HSW HDW HTW HB HK HI hdy HX HM KN)
      · refine g_tabOut (tgt := 1355) C dL_law_39 (Or.inr (by rw [nI_toInt (by omega)]; omega)) (by decide) ?_
        refine g_widen (k' := 100 + 10 * (i + 1)) (n' := 2000 + 50 * (i + 1)) (by omega) (by omega) ?_
        exact KN t9 wx ou wm n fk fs len fw ds dr mc th rc ck pm ep ba dy iv dv HRW HSW HDW HTW HB HK HI (by omega) HX HM
end LOOP
