set_option maxHeartbeats 4000000 in
set_option maxRecDepth 100000 in
theorem kX9_firstFree (l : Launch) (κ : KK) (u0 : Nat) (u1 : Nat) (u2 : Nat) (u3 : Nat) (u4 : Nat) (u5 : Nat) (u6 : Nat) (u7 : Nat) (u8 : Nat) (u9 : Nat) (ua : Nat) (ub : Nat) (uc : Nat) (ud : Nat) (ue : Nat) (uf : Nat) (ug : Nat) (t9 : Nat) (n : Nat) (ds : Nat) (mc : Nat) (len : Nat) (ba : Nat) (sm : Nat) (dy : Nat) (s9 : Nat) (hs : s9 < 64) (hf6 : ff6 s9 < 6) : CP l yX9_firstFree cX9_firstFree 3 (some .int) 0 κ [.ref u0, .int (nI s9)] [(u0, .inr (8, [.int (nI t9), .int (nI n), .ref u1, .ref u2, .int (nI ds), .ref u3, .int (nI mc), .ref u4, .ref u5, .ref u6, .ref u7, .ref u8, .int (nI len), .ref u9, .int (nI ba), .int (nI sm), .ref ua, .ref ub, .ref uc, .ref ud, .ref ue, .int (nI dy), .ref uf, .ref ug]))] (fun vr_ => vr_ = nI (ff6 s9)) := by
  refine cp_of RX9 rfl (by decide) (Nat.le_of_ble_eq_true rfl) ?_
  intro p e s m below meth c C
  refine g_lv (lv' := [(0, .ref u0), (1, .int (nI s9))]) [0, 1] rfl ?_
  refine g_iconst (pc' := 1) (v := nI 0) C dX9_firstFree_0 (by decide) rfl ?_
  refine g_istore_n (pc' := 2) (lv' := [(2, .int (nI 0)), (0, .ref u0), (1, .int (nI s9))]) C dX9_firstFree_1 rfl (by decide) rfl rfl ?_
  have lp_a : ∀ (fu_a : Nat) (p9 : Nat), (p9 ≤ ff6 s9) → (7 - p9) < fu_a → G p l e (rmv 0 0 0) s m ([.ref u0, .int (nI s9)] : List Value).toArray below meth c κ 3 (JP s) [(u0, .inr (8, [.int (nI t9), .int (nI n), .ref u1, .ref u2, .int (nI ds), .ref u3, .int (nI mc), .ref u4, .ref u5, .ref u6, .ref u7, .ref u8, .int (nI len), .ref u9, .int (nI ba), .int (nI sm), .ref ua, .ref ub, .ref uc, .ref ud, .ref ue, .int (nI dy), .ref uf, .ref ug]))] 0 0 (MQ below (vp_Si (fun vr_ => vr_ = nI (ff6 s9))) ([.ref u0, .int (nI s9)] : List Value).toArray s 0 0 (fun _ => False)) 2 [(2, .int (nI p9)), (0, .ref u0), (1, .int (nI s9))] [] := by
    intro fu_a
    induction fu_a with
    | zero => intro p9 hp hmu; exact absurd hmu (Nat.not_lt_zero _)
    | succ fu_a ih_a =>
      intro p9 hp hmu_a
      refine g_iload_n (pc' := 3) C 2 dX9_firstFree_2 rfl rfl rfl ?_
      refine g_iload_n (pc' := 4) C 0 dX9_firstFree_3 rfl rfl rfl ?_
      refine g_ishr (pc' := 5) (v := nI (s9 / 2 ^ p9)) C dX9_firstFree_4 (nI_shr _ _ (by first | assumption | omega) (by first | assumption | omega)) rfl ?_
      refine g_iconst (pc' := 6) (v := nI 1) C dX9_firstFree_5 (by decide) rfl ?_
      refine g_iand (pc' := 7) (v := nI ((s9 / 2 ^ p9) &&& 1)) C dX9_firstFree_6 (nI_and _ _) rfl ?_
      refine g_iconst (pc' := 8) (v := nI 1) C dX9_firstFree_7 (by decide) rfl ?_
      refine g_icmp_neN (pc' := 11) (tgt := 17) C (by have := bit_le s9 p9; omega) (by first | assumption | omega) dX9_firstFree_8 (by decide) rfl (fun c_8_1 => ?_) (fun c_8_1 => ?_)
      · refine g_iload_n (pc' := 18) C 0 dX9_firstFree_17 rfl rfl rfl ?_
        exact g_retP C rfl rfl (show nI p9 = nI (ff6 s9) by have e : p9 = ff6 s9 := Nat.le_antisymm hp (Nat.not_lt.mp (fun q => absurd ((ff_tb s9 hs).1 p9 q (by omega)) (tb_n c_8_1))); rw [e]) dX9_firstFree_18
      · refine g_iinc (pc' := 14) (v := nI (p9 + 1)) (lv' := [(2, .int (nI (p9 + 1))), (0, .ref u0), (1, .int (nI s9))]) C 0 dX9_firstFree_11 rfl (iincN1 _) (by decide) rfl rfl ?_
        refine g_goto (tgt := 2) C dX9_firstFree_14 (by decide) ?_
        exact ih_a (p9 + 1) (Nat.lt_of_le_of_ne hp (fun e => by have q2 := (ff_tb s9 hs).2.1 hf6; rw [← e, tb_t c_8_1] at q2; cases q2)) (by omega)
  exact lp_a 8 0 (Nat.zero_le _) (by omega)

set_option maxHeartbeats 4000000 in
set_option maxRecDepth 100000 in
theorem kX9_stands (l : Launch) (κ : KK) (u0 : Nat) (u1 : Nat) (u2 : Nat) (u3 : Nat) (u4 : Nat) (u5 : Nat) (u6 : Nat) (u7 : Nat) (u8 : Nat) (u9 : Nat) (ua : Nat) (ub : Nat) (uc : Nat) (ud : Nat) (ue : Nat) (uf : Nat) (ug : Nat) (t9 : Nat) (n : Nat) (ds : Nat) (mc : Nat) (len : Nat) (ba : Nat) (sm : Nat) (dy : Nat) (fk : Nat → Nat) (fs : Nat → Nat) (rc : Nat → Option Nat) (ck : Nat → Nat) (pm : Nat → Nat) (ep : Nat → Nat → Option Nat) (fw : Nat → Nat) (e9 : Nat) (s9 : Nat) (hR : RW n fk fs) (hS : SW len fw) (hm : mc ≤ 8) (hE : EW mc rc ck pm ep) (hX : EX mc rc ep) (he : e9 < mc) (h0 : 0 < s9) (hs : s9 < 2 ^ len) : CP l yX9_stands cX9_stands 8 (some .boolean) 1 κ [.ref u0, .int (nI e9), .int (nI s9)] [(u0, .inr (8, [.int (nI t9), .int (nI n), .ref u1, .ref u2, .int (nI ds), .ref u3, .int (nI mc), .ref u4, .ref u5, .ref u6, .ref u7, .ref u8, .int (nI len), .ref u9, .int (nI ba), .int (nI sm), .ref ua, .ref ub, .ref uc, .ref ud, .ref ue, .int (nI dy), .ref uf, .ref ug])), (u1, .inl (κ.2 0, 6, .inl (nA fk))), (u2, .inl (κ.2 0, 6, .inl (nA fs))), (u6, .inl (κ.2 0, 8, .inl (oA rc))), (u7, .inl (κ.2 0, 8, .inl (nA pm))), (u8, .inl (κ.2 0, 32, .inl (oA (fl4 ep)))), (u9, .inl (κ.2 0, 6, .inl (nA fw)))] (fun vr_ => vr_ = b2i (stS n fk fs len fw (rc e9) (pm e9) (ep e9) s9)) := by
  refine cp_of RX9 rfl (by decide) (Nat.le_of_ble_eq_true rfl) ?_
  intro p e s m below meth c C
  refine g_lv (lv' := [(0, .ref u0), (1, .int (nI e9)), (2, .int (nI s9))]) [0, 1, 2] rfl ?_
  have hl6 : len ≤ 6 := hS.1
  have hw := hS.2
  have hs64 : s9 < 64 := Nat.lt_of_lt_of_le hs (pw64 hl6)
  have htz := tz_tb s9 hs64 h0
  have hzl := tz_len len (by omega) s9 hs64 h0 hs
  have ht6 := tz6_lt s9 hs64 h0
  refine g_iconst (pc' := 1) (v := nI 0) C dX9_stands_0 (by decide) rfl ?_
  refine g_istore_n (pc' := 2) (lv' := [(3, .int (nI 0)), (0, .ref u0), (1, .int (nI e9)), (2, .int (nI s9))]) C dX9_stands_1 rfl (by decide) rfl rfl ?_
  have lp_a : ∀ (fu_a : Nat) (f : Nat), (f ≤ tz6 s9) → (7 - f) < fu_a → G p l e (rmv 1 0 0) s m ([.ref u0, .int (nI e9), .int (nI s9)] : List Value).toArray below meth c κ 8 (JP s) [(u0, .inr (8, [.int (nI t9), .int (nI n), .ref u1, .ref u2, .int (nI ds), .ref u3, .int (nI mc), .ref u4, .ref u5, .ref u6, .ref u7, .ref u8, .int (nI len), .ref u9, .int (nI ba), .int (nI sm), .ref ua, .ref ub, .ref uc, .ref ud, .ref ue, .int (nI dy), .ref uf, .ref ug])), (u1, .inl (κ.2 0, 6, .inl (nA fk))), (u2, .inl (κ.2 0, 6, .inl (nA fs))), (u6, .inl (κ.2 0, 8, .inl (oA rc))), (u7, .inl (κ.2 0, 8, .inl (nA pm))), (u8, .inl (κ.2 0, 32, .inl (oA (fl4 ep)))), (u9, .inl (κ.2 0, 6, .inl (nA fw)))] 0 0 (MQ below (vp_Si (fun vr_ => vr_ = b2i (stS n fk fs len fw (rc e9) (pm e9) (ep e9) s9))) ([.ref u0, .int (nI e9), .int (nI s9)] : List Value).toArray s 0 0 (fun _ => False)) 2 [(3, .int (nI f)), (0, .ref u0), (1, .int (nI e9)), (2, .int (nI s9))] [] := by
    intro fu_a
    induction fu_a with
    | zero => intro f hf hmu; exact absurd hmu (Nat.not_lt_zero _)
    | succ fu_a ih_a =>
      intro f hf hmu_a
      refine g_iload_n (pc' := 3) C 3 dX9_stands_2 rfl rfl rfl ?_
      refine g_iload_n (pc' := 4) C 0 dX9_stands_3 rfl rfl rfl ?_
      refine g_ishr (pc' := 5) (v := nI (s9 / 2 ^ f)) C dX9_stands_4 (nI_shr _ _ (by first | assumption | omega) (by first | assumption | omega)) rfl ?_
      refine g_iconst (pc' := 6) (v := nI 1) C dX9_stands_5 (by decide) rfl ?_
      refine g_iand (pc' := 7) (v := nI ((s9 / 2 ^ f) &&& 1)) C dX9_stands_6 (nI_and _ _) rfl ?_
      refine g_if_neN (pc' := 10) (tgt := 16) C (by have := bit_le s9 f; omega) dX9_stands_7 (by decide) rfl (fun c_7_1 => ?_) (fun c_7_1 => ?_)
      · have ef : f = tz6 s9 := by
          rcases Nat.lt_or_ge f (tz6 s9) with q | q
          · exact absurd (tb_t0 c_7_1) (by rw [htz.2 f q]; decide)
          · omega
        have hfl : f < len := by rw [ef]; exact hzl
        refine g_aload_n (pc' := 17) C 1 dX9_stands_16 rfl rfl rfl ?_
        refine g_get (pc' := 20) C fl_RX9_26_8 0 rfl rfl dX9_stands_17 rfl ?_
        refine g_iload_n (pc' := 21) C 2 dX9_stands_20 rfl rfl rfl ?_
        refine g_ialdO (pc' := 22) C 3 (f := rc) rfl e9 (by first | assumption | omega) (by decide) dX9_stands_21 rfl ?_
        refine g_iconst (pc' := 23) (v := (-1)) C dX9_stands_22 (by decide) rfl ?_
        refine g_icmp_eqO (pc' := 26) (tgt := 154) C (fun h q => by have := (hE.sp he q).2.2; omega) dX9_stands_23 (by decide) rfl (fun c_23_2 => ?_) (fun v_23_2 c_23_2 => ?_)
        · obtain ⟨hP, hP0, hPl⟩ := hE.ph he c_23_2
          obtain ⟨hpm1, hpm4, hpa⟩ := hP
          refine g_iconst (pc' := 155) (v := nI 0) C dX9_stands_154 (by decide) rfl ?_
          refine g_istore (pc' := 157) (lv' := [(4, .int (nI 0)), (3, .int (nI f)), (0, .ref u0), (1, .int (nI e9)), (2, .int (nI s9))]) C dX9_stands_155 (by decide) rfl rfl ?_
          refine g_iload_n (pc' := 158) C 1 dX9_stands_157 rfl rfl rfl ?_
          refine g_aload_n (pc' := 159) C 2 dX9_stands_158 rfl rfl rfl ?_
          refine g_get (pc' := 162) C fl_RX9_29_8 0 rfl rfl dX9_stands_159 rfl ?_
          refine g_iload_n (pc' := 163) C 3 dX9_stands_162 rfl rfl rfl ?_
          refine g_ialdN (pc' := 164) C 4 (f := pm) rfl e9 (by first | assumption | omega) (by decide) dX9_stands_163 rfl ?_
          refine g_iadd (pc' := 165) (v := nI (f + (pm e9))) C dX9_stands_164 (nI_add _ _) rfl ?_
          refine g_aload_n (pc' := 166) C 2 dX9_stands_165 rfl rfl rfl ?_
          refine g_get (pc' := 169) C fl_RX9_94_8 0 rfl rfl dX9_stands_166 rfl ?_
          refine g_icmp_gtN (pc' := 172) (tgt := 176) C (by first | assumption | omega) (by first | assumption | omega) dX9_stands_169 (by decide) rfl (fun c_169_3 => ?_) (fun c_169_3 => ?_)
          · refine g_iconst (pc' := 177) (v := nI 0) C dX9_stands_176 (by decide) rfl ?_
            refine g_istore (pc' := 179) (lv' := [(5, .int (nI 0)), (4, .int (nI 0)), (3, .int (nI f)), (0, .ref u0), (1, .int (nI e9)), (2, .int (nI s9))]) C dX9_stands_177 (by decide) rfl rfl ?_
            refine g_iconst (pc' := 180) (v := nI 0) C dX9_stands_179 (by decide) rfl ?_
            refine g_istore (pc' := 182) (lv' := [(6, .int (nI 0)), (5, .int (nI 0)), (4, .int (nI 0)), (3, .int (nI f)), (0, .ref u0), (1, .int (nI e9)), (2, .int (nI s9))]) C dX9_stands_180 (by decide) rfl rfl ?_
            refine g_iload (pc' := 184) C 0 dX9_stands_182 rfl rfl ?_
            refine g_aload_n (pc' := 185) C 4 dX9_stands_184 rfl rfl rfl ?_
            refine g_get (pc' := 188) C fl_RX9_29_8 0 rfl rfl dX9_stands_185 rfl ?_
            refine g_iload_n (pc' := 189) C 5 dX9_stands_188 rfl rfl rfl ?_
            refine g_ialdN (pc' := 190) C 4 (f := pm) rfl e9 (by first | assumption | omega) (by decide) dX9_stands_189 rfl ?_
            refine g_icmp_geN (pc' := 193) (tgt := 269) C (by first | assumption | omega) (by first | assumption | omega) dX9_stands_190 (by decide) rfl (fun c_190_4 => absurd c_190_4 (by omega)) (fun c_190_4 => ?_)
            refine g_iload (pc' := 195) C 1 dX9_stands_193 rfl rfl ?_
            refine g_if_eqN (pc' := 198) (tgt := 269) C (by first | assumption | omega) dX9_stands_195 (by decide) rfl (fun _ => ?_) (fun z => absurd z (by decide))
            refine g_iload (pc' := 271) C 1 dX9_stands_269 rfl rfl ?_
            refine g_if_eqN (pc' := 274) (tgt := 284) C (by first | assumption | omega) dX9_stands_271 (by decide) rfl (fun _ => ?_) (fun z => absurd z (by decide))
            refine g_iconst (pc' := 285) (v := nI 0) C dX9_stands_284 (by decide) rfl ?_
            exact g_retP C rfl rfl (show nI 0 = b2i (stS n fk fs len fw (rc e9) (pm e9) (ep e9) s9) by exact bF (by rw [stS_ph c_23_2 ef, decide_eq_false (show ¬ (f + pm e9 ≤ len) by omega)]; rfl)) dX9_stands_285
          · refine g_iconst (pc' := 173) (v := nI 1) C dX9_stands_172 (by decide) rfl ?_
            refine g_goto (tgt := 177) C dX9_stands_173 (by decide) ?_
            refine g_istore (pc' := 179) (lv' := [(5, .int (nI 1)), (4, .int (nI 0)), (3, .int (nI f)), (0, .ref u0), (1, .int (nI e9)), (2, .int (nI s9))]) C dX9_stands_177 (by decide) rfl rfl ?_
            refine g_iconst (pc' := 180) (v := nI 0) C dX9_stands_179 (by decide) rfl ?_
            refine g_istore (pc' := 182) (lv' := [(6, .int (nI 0)), (5, .int (nI 1)), (4, .int (nI 0)), (3, .int (nI f)), (0, .ref u0), (1, .int (nI e9)), (2, .int (nI s9))]) C dX9_stands_180 (by decide) rfl rfl ?_
            have lp_d : ∀ (fu_d : Nat) (k : Nat) (its : Nat) (is9 : Bool), (k ≤ pm e9) → (its = phSet (ep e9) f k) → (is9 = phF n fk fs fw (ep e9) f k) → (pm e9 - k) < fu_d → G p l e (rmv 1 0 0) s m ([.ref u0, .int (nI e9), .int (nI s9)] : List Value).toArray below meth c κ 8 (JP s) [(u0, .inr (8, [.int (nI t9), .int (nI n), .ref u1, .ref u2, .int (nI ds), .ref u3, .int (nI mc), .ref u4, .ref u5, .ref u6, .ref u7, .ref u8, .int (nI len), .ref u9, .int (nI ba), .int (nI sm), .ref ua, .ref ub, .ref uc, .ref ud, .ref ue, .int (nI dy), .ref uf, .ref ug])), (u1, .inl (κ.2 0, 6, .inl (nA fk))), (u2, .inl (κ.2 0, 6, .inl (nA fs))), (u6, .inl (κ.2 0, 8, .inl (oA rc))), (u7, .inl (κ.2 0, 8, .inl (nA pm))), (u8, .inl (κ.2 0, 32, .inl (oA (fl4 ep)))), (u9, .inl (κ.2 0, 6, .inl (nA fw)))] 0 0 (MQ below (vp_Si (fun vr_ => vr_ = b2i (stS n fk fs len fw (rc e9) (pm e9) (ep e9) s9))) ([.ref u0, .int (nI e9), .int (nI s9)] : List Value).toArray s 0 0 (fun _ => False)) 182 [(6, .int (nI k)), (5, .int (b2i is9)), (4, .int (nI its)), (3, .int (nI f)), (0, .ref u0), (1, .int (nI e9)), (2, .int (nI s9))] [] := by
              intro fu_d
              induction fu_d with
              | zero => intro k its is9 hk hits his hmu; exact absurd hmu (Nat.not_lt_zero _)
              | succ fu_d ih_d =>
                intro k its is9 hk hits his hmu_d
                refine g_iload (pc' := 184) C 0 dX9_stands_182 rfl rfl ?_
                refine g_aload_n (pc' := 185) C 4 dX9_stands_184 rfl rfl rfl ?_
                refine g_get (pc' := 188) C fl_RX9_29_8 0 rfl rfl dX9_stands_185 rfl ?_
                refine g_iload_n (pc' := 189) C 5 dX9_stands_188 rfl rfl rfl ?_
                refine g_ialdN (pc' := 190) C 4 (f := pm) rfl e9 (by first | assumption | omega) (by decide) dX9_stands_189 rfl ?_
                refine g_icmp_geN (pc' := 193) (tgt := 269) C (by first | assumption | omega) (by first | assumption | omega) dX9_stands_190 (by decide) rfl (fun c_190_7 => ?_) (fun c_190_7 => ?_)
                · refine g_iload (pc' := 271) C 1 dX9_stands_269 rfl rfl ?_
                  refine g_if_eqB (pc' := 274) (tgt := 284) C dX9_stands_271 (by decide) rfl (fun c_271_8 => ?_) (fun c_271_8 => ?_)
                  · refine g_iconst (pc' := 285) (v := nI 0) C dX9_stands_284 (by decide) rfl ?_
                    exact g_retP C rfl rfl (show nI 0 = b2i (stS n fk fs len fw (rc e9) (pm e9) (ep e9) s9) by exact bF (by rw [stS_ph c_23_2 ef, phF_more2 (k := k) (by rw [← his]; exact c_271_8) hk]; simp)) dX9_stands_285
                  · refine g_iload (pc' := 276) C 2 dX9_stands_274 rfl rfl ?_
                    refine g_iload_n (pc' := 277) C 6 dX9_stands_276 rfl rfl rfl ?_
                    refine g_icmp_neN (pc' := 280) (tgt := 284) C (by have h9 := phSet_lt6 (pa := ep e9) (f := f) k (by omega); omega) (by first | assumption | omega) dX9_stands_277 (by decide) rfl (fun c_277_9 => ?_) (fun c_277_9 => ?_)
                    · refine g_iconst (pc' := 285) (v := nI 0) C dX9_stands_284 (by decide) rfl ?_
                      exact g_retP C rfl rfl (show nI 0 = b2i (stS n fk fs len fw (rc e9) (pm e9) (ep e9) s9) by exact bF (by have e : k = pm e9 := (by omega); rw [stS_ph c_23_2 ef, decide_eq_true (show f + pm e9 ≤ len by omega), ← e, ← his, ← hits, c_271_8, decide_eq_false c_277_9]; rfl)) dX9_stands_285
                    · refine g_iconst (pc' := 281) (v := nI 1) C dX9_stands_280 (by decide) rfl ?_
                      refine g_goto (tgt := 285) C dX9_stands_281 (by decide) ?_
                      exact g_retP C rfl rfl (show nI 1 = b2i (stS n fk fs len fw (rc e9) (pm e9) (ep e9) s9) by exact bT (by have e : k = pm e9 := (by omega); rw [stS_ph c_23_2 ef, decide_eq_true (show f + pm e9 ≤ len by omega), ← e, ← his, ← hits, c_271_8, decide_eq_true c_277_9]; rfl)) dX9_stands_285
                · refine g_iload (pc' := 195) C 1 dX9_stands_193 rfl rfl ?_
                  refine g_if_eqB (pc' := 198) (tgt := 269) C dX9_stands_195 (by decide) rfl (fun c_195_10 => ?_) (fun c_195_10 => ?_)
                  · refine g_iload (pc' := 271) C 1 dX9_stands_269 rfl rfl ?_
                    refine g_if_eqB (pc' := 274) (tgt := 284) C dX9_stands_271 (by decide) rfl (fun c_271_11 => ?_) (fun c_271_11 => absurd c_271_11 (by exact fun q => by rw [c_195_10] at q; cases q))
                    refine g_iconst (pc' := 285) (v := nI 0) C dX9_stands_284 (by decide) rfl ?_
                    exact g_retP C rfl rfl (show nI 0 = b2i (stS n fk fs len fw (rc e9) (pm e9) (ep e9) s9) by exact bF (by rw [stS_ph c_23_2 ef, phF_more2 (k := k) (by rw [← his]; exact c_195_10) hk]; simp)) dX9_stands_285
                  · refine g_aload_n (pc' := 199) C 4 dX9_stands_198 rfl rfl rfl ?_
                    refine g_get (pc' := 202) C fl_RX9_32_8 0 rfl rfl dX9_stands_199 rfl ?_
                    refine g_iconst (pc' := 203) (v := nI 4) C dX9_stands_202 (by decide) rfl ?_
                    refine g_iload_n (pc' := 204) C 5 dX9_stands_203 rfl rfl rfl ?_
                    refine g_imul (pc' := 205) (v := nI (4 * e9)) C dX9_stands_204 (pk_mul _ _) rfl ?_
                    refine g_iload (pc' := 207) C 0 dX9_stands_205 rfl rfl ?_
                    refine g_iadd (pc' := 208) (v := nI ((4 * e9) + k)) C dX9_stands_207 (nI_add _ _) rfl ?_
                    refine g_ialdO (pc' := 209) C 5 (f := (fl4 ep)) rfl ((4 * e9) + k) (by first | assumption | omega) (by decide) dX9_stands_208 rfl ?_
                    refine g_val (y := oI (ep e9 k)) (congrArg oI (fl4_at (by omega))) ?_
                    refine g_istore (pc' := 211) (lv' := [(7, .int (oI (ep e9 k))), (6, .int (nI k)), (5, .int (b2i is9)), (4, .int (nI its)), (3, .int (nI f)), (0, .ref u0), (1, .int (nI e9)), (2, .int (nI s9))]) C dX9_stands_209 (by decide) rfl rfl ?_
                    refine g_iload (pc' := 213) C 3 dX9_stands_211 rfl rfl ?_
                    refine g_iload (pc' := 215) C 0 dX9_stands_213 rfl rfl ?_
                    refine g_iconst (pc' := 216) (v := (-1)) C dX9_stands_215 (by decide) rfl ?_
                    refine g_icmp_neO (pc' := 219) (tgt := 223) C (fun h q => Nat.lt_trans (hpa _ h q) (by decide)) dX9_stands_216 (by decide) rfl (fun v_216_12 c_216_12 => ?_) (fun c_216_12 => ?_)
                    · refine g_iconst (pc' := 224) (v := nI 1) C dX9_stands_223 (by decide) rfl ?_
                      refine g_iload_n (pc' := 225) C 4 dX9_stands_224 rfl rfl rfl ?_
                      refine g_iload (pc' := 227) C 1 dX9_stands_225 rfl rfl ?_
                      refine g_iadd (pc' := 228) (v := nI (f + k)) C dX9_stands_227 (nI_add _ _) rfl ?_
                      refine g_ishl (pc' := 229) (v := nI (2 ^ (f + k))) C dX9_stands_228 (nI_shl1 _ (by first | assumption | omega)) rfl ?_
                      refine g_ior (pc' := 230) (v := nI (its ||| (2 ^ (f + k)))) C dX9_stands_229 (nI_or _ _) rfl ?_
                      refine g_istore (pc' := 232) (lv' := [(4, .int (nI (its ||| (2 ^ (f + k))))), (7, .int (oI (ep e9 k))), (6, .int (nI k)), (5, .int (b2i is9)), (3, .int (nI f)), (0, .ref u0), (1, .int (nI e9)), (2, .int (nI s9))]) C dX9_stands_230 (by decide) rfl rfl ?_
                      refine g_iload (pc' := 234) C 1 dX9_stands_232 rfl rfl ?_
                      refine g_val (y := nI v_216_12) (by rw [c_216_12]; rfl) ?_
                      refine g_iconst (pc' := 235) (v := (-1)) C dX9_stands_234 (by decide) rfl ?_
                      refine g_icmp_eq (pc' := 238) (tgt := 256) C dX9_stands_235 (by decide) rfl (fun c_235_13 => absurd c_235_13 (by exact nI_m1 (by have := hpa _ _ c_216_12; omega))) (fun c_235_13 => ?_)
                      refine g_aload_n (pc' := 239) C 5 dX9_stands_238 rfl rfl rfl ?_
                      refine g_aload_n (pc' := 240) C 5 dX9_stands_239 rfl rfl rfl ?_
                      refine g_get (pc' := 243) C fl_RX9_35_8 0 rfl rfl dX9_stands_240 rfl ?_
                      refine g_iload_n (pc' := 244) C 4 dX9_stands_243 rfl rfl rfl ?_
                      refine g_iload (pc' := 246) C 2 dX9_stands_244 rfl rfl ?_
                      refine g_iadd (pc' := 247) (v := nI (f + k)) C dX9_stands_246 (nI_add _ _) rfl ?_
                      refine g_ialdN (pc' := 248) C 6 (f := fw) rfl (f + k) (by first | assumption | omega) (by decide) dX9_stands_247 rfl ?_
                      refine g_iload (pc' := 250) C 1 dX9_stands_248 rfl rfl ?_
                      refine g_val (y := nI v_216_12) (by rw [c_216_12]; rfl) ?_
                      refine g_callP (pc' := 253) C lk_RX9_80 (kX9_forms l κ u0 u1 u2 u3 u4 u5 u6 u7 u8 u9 ua ub uc ud ue uf ug t9 n ds mc len ba sm dy fk fs (fw (f + k)) v_216_12 (by first | assumption | omega) (hw _) (hpa _ _ c_216_12)) 0 rfl rfl [0, 1, 2] rfl rfl (Nat.le_of_ble_eq_true rfl) ⟨Nat.le_of_ble_eq_true rfl, Nat.le_of_ble_eq_true rfl⟩ ⟨Nat.le_of_ble_eq_true rfl, Nat.le_of_ble_eq_true rfl⟩ rfl dX9_stands_250 rfl (fun r_250_14 h_250_14 => ?_)
                      obtain rfl : r_250_14 = b2i (fm n fk fs (fw (f + k)) v_216_12) := h_250_14
                      refine g_if_eqB (pc' := 256) (tgt := 260) C dX9_stands_253 (by decide) rfl (fun c_253_15 => ?_) (fun c_253_15 => ?_)
                      · refine g_iconst (pc' := 261) (v := nI 0) C dX9_stands_260 (by decide) rfl ?_
                        refine g_istore (pc' := 263) (lv' := [(5, .int (nI 0)), (4, .int (nI (its ||| (2 ^ (f + k))))), (7, .int (oI (ep e9 k))), (6, .int (nI k)), (3, .int (nI f)), (0, .ref u0), (1, .int (nI e9)), (2, .int (nI s9))]) C dX9_stands_261 (by decide) rfl rfl ?_
                        refine g_iinc (pc' := 266) (v := nI (k + 1)) (lv' := [(6, .int (nI (k + 1))), (5, .int (nI 0)), (4, .int (nI (its ||| (2 ^ (f + k))))), (7, .int (oI (ep e9 k))), (3, .int (nI f)), (0, .ref u0), (1, .int (nI e9)), (2, .int (nI s9))]) C 3 dX9_stands_263 rfl (iincN1 _) (by decide) rfl rfl ?_
                        refine g_goto (tgt := 182) C dX9_stands_266 (by decide) ?_
                        refine g_lv (lv' := [(6, .int (nI (k + 1))), (5, .int (nI 0)), (4, .int (nI (its ||| (2 ^ (f + k))))), (3, .int (nI f)), (0, .ref u0), (1, .int (nI e9)), (2, .int (nI s9))]) [0, 1, 2, 4, 5, 6, 7] rfl ?_
                        exact ih_d (k + 1) (its ||| (2 ^ (f + k))) false (by first | assumption | omega) (by rw [phSet, c_216_12, ← hits]) (by rw [phF, c_216_12, ← his, c_195_10]; simp only [c_253_15]; rfl) (by omega)
                      · refine g_iconst (pc' := 257) (v := nI 1) C dX9_stands_256 (by decide) rfl ?_
                        refine g_goto (tgt := 261) C dX9_stands_257 (by decide) ?_
                        refine g_istore (pc' := 263) (lv' := [(5, .int (nI 1)), (4, .int (nI (its ||| (2 ^ (f + k))))), (7, .int (oI (ep e9 k))), (6, .int (nI k)), (3, .int (nI f)), (0, .ref u0), (1, .int (nI e9)), (2, .int (nI s9))]) C dX9_stands_261 (by decide) rfl rfl ?_
                        refine g_iinc (pc' := 266) (v := nI (k + 1)) (lv' := [(6, .int (nI (k + 1))), (5, .int (nI 1)), (4, .int (nI (its ||| (2 ^ (f + k))))), (7, .int (oI (ep e9 k))), (3, .int (nI f)), (0, .ref u0), (1, .int (nI e9)), (2, .int (nI s9))]) C 3 dX9_stands_263 rfl (iincN1 _) (by decide) rfl rfl ?_
                        refine g_goto (tgt := 182) C dX9_stands_266 (by decide) ?_
                        refine g_lv (lv' := [(6, .int (nI (k + 1))), (5, .int (nI 1)), (4, .int (nI (its ||| (2 ^ (f + k))))), (3, .int (nI f)), (0, .ref u0), (1, .int (nI e9)), (2, .int (nI s9))]) [0, 1, 2, 4, 5, 6, 7] rfl ?_
                        exact ih_d (k + 1) (its ||| (2 ^ (f + k))) true (by first | assumption | omega) (by rw [phSet, c_216_12, ← hits]) (by rw [phF, c_216_12, ← his, c_195_10]; simp only [c_253_15]; rfl) (by omega)
                    · refine g_iconst (pc' := 220) (v := nI 0) C dX9_stands_219 (by decide) rfl ?_
                      refine g_goto (tgt := 229) C dX9_stands_220 (by decide) ?_
                      refine g_ior (pc' := 230) (v := nI (its ||| 0)) C dX9_stands_229 (nI_or _ _) rfl ?_
                      refine g_istore (pc' := 232) (lv' := [(4, .int (nI (its ||| 0))), (7, .int (oI (ep e9 k))), (6, .int (nI k)), (5, .int (b2i is9)), (3, .int (nI f)), (0, .ref u0), (1, .int (nI e9)), (2, .int (nI s9))]) C dX9_stands_230 (by decide) rfl rfl ?_
                      refine g_iload (pc' := 234) C 1 dX9_stands_232 rfl rfl ?_
                      refine g_val (y := -1) (by rw [c_216_12]; rfl) ?_
                      refine g_iconst (pc' := 235) (v := (-1)) C dX9_stands_234 (by decide) rfl ?_
                      refine g_icmp_eq (pc' := 238) (tgt := 256) C dX9_stands_235 (by decide) rfl (fun c_235_16 => ?_) (fun c_235_16 => absurd c_235_16 (by exact fun q => q rfl))
                      refine g_iconst (pc' := 257) (v := nI 1) C dX9_stands_256 (by decide) rfl ?_
                      refine g_goto (tgt := 261) C dX9_stands_257 (by decide) ?_
                      refine g_istore (pc' := 263) (lv' := [(5, .int (nI 1)), (4, .int (nI (its ||| 0))), (7, .int (oI (ep e9 k))), (6, .int (nI k)), (3, .int (nI f)), (0, .ref u0), (1, .int (nI e9)), (2, .int (nI s9))]) C dX9_stands_261 (by decide) rfl rfl ?_
                      refine g_iinc (pc' := 266) (v := nI (k + 1)) (lv' := [(6, .int (nI (k + 1))), (5, .int (nI 1)), (4, .int (nI (its ||| 0))), (7, .int (oI (ep e9 k))), (3, .int (nI f)), (0, .ref u0), (1, .int (nI e9)), (2, .int (nI s9))]) C 3 dX9_stands_263 rfl (iincN1 _) (by decide) rfl rfl ?_
                      refine g_goto (tgt := 182) C dX9_stands_266 (by decide) ?_
                      refine g_lv (lv' := [(6, .int (nI (k + 1))), (5, .int (nI 1)), (4, .int (nI (its ||| 0))), (3, .int (nI f)), (0, .ref u0), (1, .int (nI e9)), (2, .int (nI s9))]) [0, 1, 2, 4, 5, 6, 7] rfl ?_
                      exact ih_d (k + 1) (its ||| 0) true (by first | assumption | omega) (by rw [phSet, c_216_12, Nat.or_zero]; exact hits) (by rw [phF, c_216_12, ← his, c_195_10]; rfl) (by omega)
            exact lp_d 5 0 0 true (Nat.zero_le _) rfl rfl (by omega)
        · obtain ⟨hq1, hq2, hq3⟩ := hE.sp he c_23_2
          refine g_iload_n (pc' := 27) C 0 dX9_stands_26 rfl rfl rfl ?_
          refine g_iconst (pc' := 28) (v := nI 1) C dX9_stands_27 (by decide) rfl ?_
          refine g_iadd (pc' := 29) (v := nI (f + 1)) C dX9_stands_28 (nI_add _ _) rfl ?_
          refine g_istore (pc' := 31) (lv' := [(4, .int (nI (f + 1))), (3, .int (nI f)), (0, .ref u0), (1, .int (nI e9)), (2, .int (nI s9))]) C dX9_stands_29 (by decide) rfl rfl ?_
          have lp_b : ∀ (fu_b : Nat) (g : Nat), (f < g) → (g ≤ len) → (∀ j, f < j → j < g → tb s9 j = false) → (len - g) < fu_b → G p l e (rmv 1 0 0) s m ([.ref u0, .int (nI e9), .int (nI s9)] : List Value).toArray below meth c κ 8 (JP s) [(u0, .inr (8, [.int (nI t9), .int (nI n), .ref u1, .ref u2, .int (nI ds), .ref u3, .int (nI mc), .ref u4, .ref u5, .ref u6, .ref u7, .ref u8, .int (nI len), .ref u9, .int (nI ba), .int (nI sm), .ref ua, .ref ub, .ref uc, .ref ud, .ref ue, .int (nI dy), .ref uf, .ref ug])), (u1, .inl (κ.2 0, 6, .inl (nA fk))), (u2, .inl (κ.2 0, 6, .inl (nA fs))), (u6, .inl (κ.2 0, 8, .inl (oA rc))), (u7, .inl (κ.2 0, 8, .inl (nA pm))), (u8, .inl (κ.2 0, 32, .inl (oA (fl4 ep)))), (u9, .inl (κ.2 0, 6, .inl (nA fw)))] 0 0 (MQ below (vp_Si (fun vr_ => vr_ = b2i (stS n fk fs len fw (rc e9) (pm e9) (ep e9) s9))) ([.ref u0, .int (nI e9), .int (nI s9)] : List Value).toArray s 0 0 (fun _ => False)) 31 [(4, .int (nI g)), (3, .int (nI f)), (0, .ref u0), (1, .int (nI e9)), (2, .int (nI s9))] [] := by
            intro fu_b
            induction fu_b with
            | zero => intro g hg1 hg2 hno hmu; exact absurd hmu (Nat.not_lt_zero _)
            | succ fu_b ih_b =>
              intro g hg1 hg2 hno hmu_b
              refine g_iload (pc' := 33) C 0 dX9_stands_31 rfl rfl ?_
              refine g_aload_n (pc' := 34) C 2 dX9_stands_33 rfl rfl rfl ?_
              refine g_get (pc' := 37) C fl_RX9_94_8 0 rfl rfl dX9_stands_34 rfl ?_
              refine g_icmp_geN (pc' := 40) (tgt := 55) C (by first | assumption | omega) (by first | assumption | omega) dX9_stands_37 (by decide) rfl (fun c_37_17 => ?_) (fun c_37_17 => ?_)
              · refine g_iload (pc' := 57) C 0 dX9_stands_55 rfl rfl ?_
                refine g_aload_n (pc' := 58) C 2 dX9_stands_57 rfl rfl rfl ?_
                refine g_get (pc' := 61) C fl_RX9_94_8 0 rfl rfl dX9_stands_58 rfl ?_
                refine g_icmp_geN (pc' := 64) (tgt := 95) C (by first | assumption | omega) (by first | assumption | omega) dX9_stands_61 (by decide) rfl (fun c_61_18 => ?_) (fun c_61_18 => absurd c_61_18 (by omega))
                refine g_iconst (pc' := 96) (v := nI 0) C dX9_stands_95 (by decide) rfl ?_
                refine g_istore (pc' := 98) (lv' := [(5, .int (nI 0)), (4, .int (nI g)), (3, .int (nI f)), (0, .ref u0), (1, .int (nI e9)), (2, .int (nI s9))]) C dX9_stands_96 (by decide) rfl rfl ?_
                refine g_iload (pc' := 100) C 0 dX9_stands_98 rfl rfl ?_
                refine g_if_eqN (pc' := 103) (tgt := 152) C (by first | assumption | omega) dX9_stands_100 (by decide) rfl (fun _ => ?_) (fun z => absurd z (by decide))
                refine g_iconst (pc' := 153) (v := nI 0) C dX9_stands_152 (by decide) rfl ?_
                exact g_retP C rfl rfl (show nI 0 = b2i (stS n fk fs len fw (rc e9) (pm e9) (ep e9) s9) by exact bF (stS_no c_23_2 (nx_no len (by omega) s9 hs64 ⟨h0, hs, fun j _ hj => hno j (by omega) (by omega)⟩))) dX9_stands_153
              · refine g_iload_n (pc' := 41) C 4 dX9_stands_40 rfl rfl rfl ?_
                refine g_iload (pc' := 43) C 0 dX9_stands_41 rfl rfl ?_
                refine g_ishr (pc' := 44) (v := nI (s9 / 2 ^ g)) C dX9_stands_43 (nI_shr _ _ (by first | assumption | omega) (by first | assumption | omega)) rfl ?_
                refine g_iconst (pc' := 45) (v := nI 1) C dX9_stands_44 (by decide) rfl ?_
                refine g_iand (pc' := 46) (v := nI ((s9 / 2 ^ g) &&& 1)) C dX9_stands_45 (nI_and _ _) rfl ?_
                refine g_if_neN (pc' := 49) (tgt := 55) C (by have := bit_le s9 g; omega) dX9_stands_46 (by decide) rfl (fun c_46_20 => ?_) (fun c_46_20 => ?_)
                · refine g_iload (pc' := 57) C 0 dX9_stands_55 rfl rfl ?_
                  refine g_aload_n (pc' := 58) C 2 dX9_stands_57 rfl rfl rfl ?_
                  refine g_get (pc' := 61) C fl_RX9_94_8 0 rfl rfl dX9_stands_58 rfl ?_
                  refine g_icmp_geN (pc' := 64) (tgt := 95) C (by first | assumption | omega) (by first | assumption | omega) dX9_stands_61 (by decide) rfl (fun c_61_21 => absurd c_61_21 (by omega)) (fun c_61_21 => ?_)
                  refine g_iload_n (pc' := 65) C 4 dX9_stands_64 rfl rfl rfl ?_
                  refine g_iconst (pc' := 66) (v := nI 1) C dX9_stands_65 (by decide) rfl ?_
                  refine g_iload_n (pc' := 67) C 1 dX9_stands_66 rfl rfl rfl ?_
                  refine g_ishl (pc' := 68) (v := nI (2 ^ f)) C dX9_stands_67 (nI_shl1 _ (by first | assumption | omega)) rfl ?_
                  refine g_iconst (pc' := 69) (v := nI 1) C dX9_stands_68 (by decide) rfl ?_
                  refine g_iload (pc' := 71) C 0 dX9_stands_69 rfl rfl ?_
                  refine g_ishl (pc' := 72) (v := nI (2 ^ g)) C dX9_stands_71 (nI_shl1 _ (by first | assumption | omega)) rfl ?_
                  refine g_ior (pc' := 73) (v := nI ((2 ^ f) ||| (2 ^ g))) C dX9_stands_72 (nI_or _ _) rfl ?_
                  refine g_icmp_neN (pc' := 76) (tgt := 95) C (by first | assumption | omega) (by have h9 := or64 (pow_lt64 (show f < 6 by omega)) (pow_lt64 (show g < 6 by omega)); omega) dX9_stands_73 (by decide) rfl (fun c_73_22 => ?_) (fun c_73_22 => ?_)
                  · refine g_iconst (pc' := 96) (v := nI 0) C dX9_stands_95 (by decide) rfl ?_
                    refine g_istore (pc' := 98) (lv' := [(5, .int (nI 0)), (4, .int (nI g)), (3, .int (nI f)), (0, .ref u0), (1, .int (nI e9)), (2, .int (nI s9))]) C dX9_stands_96 (by decide) rfl rfl ?_
                    refine g_iload (pc' := 100) C 0 dX9_stands_98 rfl rfl ?_
                    refine g_if_eqN (pc' := 103) (tgt := 152) C (by first | assumption | omega) dX9_stands_100 (by decide) rfl (fun _ => ?_) (fun z => absurd z (by decide))
                    refine g_iconst (pc' := 153) (v := nI 0) C dX9_stands_152 (by decide) rfl ?_
                    exact g_retP C rfl rfl (show nI 0 = b2i (stS n fk fs len fw (rc e9) (pm e9) (ep e9) s9) by exact bF (by rw [stS_sp c_23_2 ef (nx_is g (by omega) s9 hs64 ⟨h0, by omega, tb_t0 c_46_20, fun j _ hj => hno j (by omega) hj.2⟩), decide_eq_false c_73_22]; simp)) dX9_stands_153
                  · refine g_iload (pc' := 78) C 0 dX9_stands_76 rfl rfl ?_
                    refine g_iload_n (pc' := 79) C 1 dX9_stands_78 rfl rfl rfl ?_
                    refine g_isub (pc' := 80) (v := nI (g - f)) C dX9_stands_79 (pk_sub (by first | assumption | omega)) rfl ?_
                    refine g_iconst (pc' := 81) (v := nI 1) C dX9_stands_80 (by decide) rfl ?_
                    refine g_isub (pc' := 82) (v := nI ((g - f) - 1)) C dX9_stands_81 (pk_sub (by first | assumption | omega)) rfl ?_
                    refine g_aload_n (pc' := 83) C 2 dX9_stands_82 rfl rfl rfl ?_
                    refine g_get (pc' := 86) C fl_RX9_26_8 0 rfl rfl dX9_stands_83 rfl ?_
                    refine g_iload_n (pc' := 87) C 3 dX9_stands_86 rfl rfl rfl ?_
                    refine g_ialdOs (pc' := 88) C 3 (f := rc) rfl e9 c_23_2 (by first | assumption | omega) (by decide) dX9_stands_87 rfl ?_
                    refine g_icmp_gtN (pc' := 91) (tgt := 95) C (by first | assumption | omega) (by omega) dX9_stands_88 (by decide) rfl (fun c_88_24 => ?_) (fun c_88_24 => ?_)
                    · refine g_iconst (pc' := 96) (v := nI 0) C dX9_stands_95 (by decide) rfl ?_
                      refine g_istore (pc' := 98) (lv' := [(5, .int (nI 0)), (4, .int (nI g)), (3, .int (nI f)), (0, .ref u0), (1, .int (nI e9)), (2, .int (nI s9))]) C dX9_stands_96 (by decide) rfl rfl ?_
                      refine g_iload (pc' := 100) C 0 dX9_stands_98 rfl rfl ?_
                      refine g_if_eqN (pc' := 103) (tgt := 152) C (by first | assumption | omega) dX9_stands_100 (by decide) rfl (fun _ => ?_) (fun z => absurd z (by decide))
                      refine g_iconst (pc' := 153) (v := nI 0) C dX9_stands_152 (by decide) rfl ?_
                      exact g_retP C rfl rfl (show nI 0 = b2i (stS n fk fs len fw (rc e9) (pm e9) (ep e9) s9) by exact bF (by rw [stS_sp c_23_2 ef (nx_is g (by omega) s9 hs64 ⟨h0, by omega, tb_t0 c_46_20, fun j _ hj => hno j (by omega) hj.2⟩), decide_eq_false (show ¬ (g - f - 1 ≤ v_23_2) by omega)]; simp)) dX9_stands_153
                    · refine g_iconst (pc' := 92) (v := nI 1) C dX9_stands_91 (by decide) rfl ?_
                      refine g_goto (tgt := 96) C dX9_stands_92 (by decide) ?_
                      refine g_istore (pc' := 98) (lv' := [(5, .int (nI 1)), (4, .int (nI g)), (3, .int (nI f)), (0, .ref u0), (1, .int (nI e9)), (2, .int (nI s9))]) C dX9_stands_96 (by decide) rfl rfl ?_
                      refine g_iload (pc' := 100) C 0 dX9_stands_98 rfl rfl ?_
                      refine g_if_eqN (pc' := 103) (tgt := 152) C (by first | assumption | omega) dX9_stands_100 (by decide) rfl (fun z => absurd z (by decide)) (fun _ => ?_)
                      refine g_aload_n (pc' := 104) C 3 dX9_stands_103 rfl rfl rfl ?_
                      refine g_aload_n (pc' := 105) C 3 dX9_stands_104 rfl rfl rfl ?_
                      refine g_get (pc' := 108) C fl_RX9_35_8 0 rfl rfl dX9_stands_105 rfl ?_
                      refine g_iload_n (pc' := 109) C 2 dX9_stands_108 rfl rfl rfl ?_
                      refine g_ialdN (pc' := 110) C 6 (f := fw) rfl f (by first | assumption | omega) (by decide) dX9_stands_109 rfl ?_
                      refine g_aload_n (pc' := 111) C 3 dX9_stands_110 rfl rfl rfl ?_
                      refine g_get (pc' := 114) C fl_RX9_32_8 0 rfl rfl dX9_stands_111 rfl ?_
                      refine g_iconst (pc' := 115) (v := nI 4) C dX9_stands_114 (by decide) rfl ?_
                      refine g_iload_n (pc' := 116) C 4 dX9_stands_115 rfl rfl rfl ?_
                      refine g_imul (pc' := 117) (v := nI (4 * e9)) C dX9_stands_116 (pk_mul _ _) rfl ?_
                      refine g_ialdO (pc' := 118) C 5 (f := (fl4 ep)) rfl (4 * e9) (by first | assumption | omega) (by decide) dX9_stands_117 rfl ?_
                      refine g_val (y := nI (og (ep e9 0))) (by show oI (fl4 ep _) = _; rw [show fl4 ep (4 * e9) = ep e9 0 from fl4_at (M := ep) (r := e9) (e := 0) (by decide)]; exact oI_og (hX e9 he _ c_23_2).1) ?_
                      refine g_callP (pc' := 121) C lk_RX9_80 (kX9_forms l κ u0 u1 u2 u3 u4 u5 u6 u7 u8 u9 ua ub uc ud ue uf ug t9 n ds mc len ba sm dy fk fs (fw f) (og (ep e9 0)) (by first | assumption | omega) (hw _) hq1) 0 rfl rfl [0, 1, 2] rfl rfl (Nat.le_of_ble_eq_true rfl) ⟨Nat.le_of_ble_eq_true rfl, Nat.le_of_ble_eq_true rfl⟩ ⟨Nat.le_of_ble_eq_true rfl, Nat.le_of_ble_eq_true rfl⟩ rfl dX9_stands_118 rfl (fun r_118_27 h_118_27 => ?_)
                      obtain rfl : r_118_27 = b2i (fm n fk fs (fw f) (og (ep e9 0))) := h_118_27
                      refine g_if_eqB (pc' := 124) (tgt := 152) C dX9_stands_121 (by decide) rfl (fun c_121_28 => ?_) (fun c_121_28 => ?_)
                      · refine g_iconst (pc' := 153) (v := nI 0) C dX9_stands_152 (by decide) rfl ?_
                        exact g_retP C rfl rfl (show nI 0 = b2i (stS n fk fs len fw (rc e9) (pm e9) (ep e9) s9) by exact bF (by rw [stS_sp c_23_2 ef (nx_is g (by omega) s9 hs64 ⟨h0, by omega, tb_t0 c_46_20, fun j _ hj => hno j (by omega) hj.2⟩), decide_eq_true (show g < len by omega), decide_eq_true c_73_22, decide_eq_true (show g - f - 1 ≤ v_23_2 by omega)]; simp [c_121_28])) dX9_stands_153
                      · refine g_aload_n (pc' := 125) C 3 dX9_stands_124 rfl rfl rfl ?_
                        refine g_aload_n (pc' := 126) C 3 dX9_stands_125 rfl rfl rfl ?_
                        refine g_get (pc' := 129) C fl_RX9_35_8 0 rfl rfl dX9_stands_126 rfl ?_
                        refine g_iload (pc' := 131) C 1 dX9_stands_129 rfl rfl ?_
                        refine g_ialdN (pc' := 132) C 6 (f := fw) rfl g (by first | assumption | omega) (by decide) dX9_stands_131 rfl ?_
                        refine g_aload_n (pc' := 133) C 3 dX9_stands_132 rfl rfl rfl ?_
                        refine g_get (pc' := 136) C fl_RX9_32_8 0 rfl rfl dX9_stands_133 rfl ?_
                        refine g_iconst (pc' := 137) (v := nI 4) C dX9_stands_136 (by decide) rfl ?_
                        refine g_iload_n (pc' := 138) C 4 dX9_stands_137 rfl rfl rfl ?_
                        refine g_imul (pc' := 139) (v := nI (4 * e9)) C dX9_stands_138 (pk_mul _ _) rfl ?_
                        refine g_iconst (pc' := 140) (v := nI 1) C dX9_stands_139 (by decide) rfl ?_
                        refine g_iadd (pc' := 141) (v := nI ((4 * e9) + 1)) C dX9_stands_140 (nI_add _ _) rfl ?_
                        refine g_ialdO (pc' := 142) C 5 (f := (fl4 ep)) rfl ((4 * e9) + 1) (by first | assumption | omega) (by decide) dX9_stands_141 rfl ?_
                        refine g_val (y := nI (og (ep e9 1))) (by show oI (fl4 ep _) = _; rw [fl4_at (M := ep) (r := e9) (e := 1) (by decide)]; exact oI_og (hX e9 he _ c_23_2).2) ?_
                        refine g_callP (pc' := 145) C lk_RX9_80 (kX9_forms l κ u0 u1 u2 u3 u4 u5 u6 u7 u8 u9 ua ub uc ud ue uf ug t9 n ds mc len ba sm dy fk fs (fw g) (og (ep e9 1)) (by first | assumption | omega) (hw _) hq2) 0 rfl rfl [0, 1, 2] rfl rfl (Nat.le_of_ble_eq_true rfl) ⟨Nat.le_of_ble_eq_true rfl, Nat.le_of_ble_eq_true rfl⟩ ⟨Nat.le_of_ble_eq_true rfl, Nat.le_of_ble_eq_true rfl⟩ rfl dX9_stands_142 rfl (fun r_142_29 h_142_29 => ?_)
                        obtain rfl : r_142_29 = b2i (fm n fk fs (fw g) (og (ep e9 1))) := h_142_29
                        refine g_if_eqB (pc' := 148) (tgt := 152) C dX9_stands_145 (by decide) rfl (fun c_145_30 => ?_) (fun c_145_30 => ?_)
                        · refine g_iconst (pc' := 153) (v := nI 0) C dX9_stands_152 (by decide) rfl ?_
                          exact g_retP C rfl rfl (show nI 0 = b2i (stS n fk fs len fw (rc e9) (pm e9) (ep e9) s9) by exact bF (by rw [stS_sp c_23_2 ef (nx_is g (by omega) s9 hs64 ⟨h0, by omega, tb_t0 c_46_20, fun j _ hj => hno j (by omega) hj.2⟩), decide_eq_true (show g < len by omega), decide_eq_true c_73_22, decide_eq_true (show g - f - 1 ≤ v_23_2 by omega)]; simp [c_121_28, c_145_30])) dX9_stands_153
                        · refine g_iconst (pc' := 149) (v := nI 1) C dX9_stands_148 (by decide) rfl ?_
                          refine g_goto (tgt := 153) C dX9_stands_149 (by decide) ?_
                          exact g_retP C rfl rfl (show nI 1 = b2i (stS n fk fs len fw (rc e9) (pm e9) (ep e9) s9) by exact bT (by rw [stS_sp c_23_2 ef (nx_is g (by omega) s9 hs64 ⟨h0, by omega, tb_t0 c_46_20, fun j _ hj => hno j (by omega) hj.2⟩), decide_eq_true (show g < len by omega), decide_eq_true c_73_22, decide_eq_true (show g - f - 1 ≤ v_23_2 by omega)]; simp [c_121_28, c_145_30])) dX9_stands_153
                · refine g_iinc (pc' := 52) (v := nI (g + 1)) (lv' := [(4, .int (nI (g + 1))), (3, .int (nI f)), (0, .ref u0), (1, .int (nI e9)), (2, .int (nI s9))]) C 0 dX9_stands_49 rfl (iincN1 _) (by decide) rfl rfl ?_
                  refine g_goto (tgt := 31) C dX9_stands_52 (by decide) ?_
                  exact ih_b (g + 1) (by first | assumption | omega) (by first | assumption | omega) (fun j h1 h2 => (Nat.lt_or_ge j g).elim (fun q => hno j h1 q) (fun q => by rw [show j = g by omega]; exact tb_f (by rw [c_46_20]; decide))) (by omega)
          exact lp_b 7 (f + 1) (Nat.lt_succ_self f) (by first | assumption | omega) (fun j h1 h2 => absurd h1 (by omega)) (by omega)
      · refine g_iinc (pc' := 13) (v := nI (f + 1)) (lv' := [(3, .int (nI (f + 1))), (0, .ref u0), (1, .int (nI e9)), (2, .int (nI s9))]) C 0 dX9_stands_10 rfl (iincN1 _) (by decide) rfl rfl ?_
        refine g_goto (tgt := 2) C dX9_stands_13 (by decide) ?_
        exact ih_a (f + 1) (Nat.lt_of_le_of_ne hf (fun e => tb_n0 c_7_1 (by rw [e]; exact htz.1))) (by omega)
  exact lp_a 8 0 (Nat.zero_le _) (by omega)
