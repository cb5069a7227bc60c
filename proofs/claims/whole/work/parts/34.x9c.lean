set_option maxHeartbeats 4000000 in
set_option maxRecDepth 100000 in
theorem kX9_finds (l : Launch) (κ : KK) (u0 : Nat) (u1 : Nat) (u2 : Nat) (u3 : Nat) (u4 : Nat) (u5 : Nat) (u6 : Nat) (u7 : Nat) (u8 : Nat) (u9 : Nat) (ua : Nat) (ub : Nat) (uc : Nat) (ud : Nat) (ue : Nat) (uf : Nat) (ug : Nat) (t9 : Nat) (n : Nat) (ds : Nat) (mc : Nat) (len : Nat) (ba : Nat) (sm : Nat) (dy : Nat) (fk : Nat → Nat) (fs : Nat → Nat) (rc : Nat → Option Nat) (ck : Nat → Nat) (pm : Nat → Nat) (ep : Nat → Nat → Option Nat) (fw : Nat → Nat) (th : Nat → Bool) (se : Nat → Nat) (ss : Nat → Nat) (hR : RW n fk fs) (hS : SW len fw) (hm : mc ≤ 8) (hE : EW mc rc ck pm ep) (hX : EX mc rc ep) (hth : ∀ e, th e = true → e < mc) : CMv l yX9_finds cX9_finds 3 none 2 0 0 κ [.ref u0] [(u0, .inr (8, [.int (nI t9), .int (nI n), .ref u1, .ref u2, .int (nI ds), .ref u3, .int (nI mc), .ref u4, .ref u5, .ref u6, .ref u7, .ref u8, .int (nI len), .ref u9, .int (nI ba), .int (nI sm), .ref ua, .ref ub, .ref uc, .ref ud, .ref ue, .int (nI dy), .ref uf, .ref ug])), (u1, .inl (κ.2 0, 6, .inl (nA fk))), (u2, .inl (κ.2 0, 6, .inl (nA fs))), (u4, .inl (κ.2 1, 8, .inl (zA th))), (u6, .inl (κ.2 0, 8, .inl (oA rc))), (u7, .inl (κ.2 0, 8, .inl (nA pm))), (u8, .inl (κ.2 0, 32, .inl (oA (fl4 ep)))), (u9, .inl (κ.2 0, 6, .inl (nA fw))), (ua, .inl (κ.2 0, 160, .inl (nA se))), (ub, .inl (κ.2 0, 160, .inl (nA ss)))] (fun (vw_ : va_W) => ∃ (sm9 : Nat), ∃ (se9 : Nat → Nat), ∃ (ss9 : Nat → Nat), (stOK (smN n fk fs len fw rc ck pm ep th mc) sm9 se9 ss9 (fun i => ck (se9 i))) ∧ vw_ = [(u0, .inr (8, [.int (nI t9), .int (nI n), .ref u1, .ref u2, .int (nI ds), .ref u3, .int (nI mc), .ref u4, .ref u5, .ref u6, .ref u7, .ref u8, .int (nI len), .ref u9, .int (nI ba), .int (nI sm9), .ref ua, .ref ub, .ref uc, .ref ud, .ref ue, .int (nI dy), .ref uf, .ref ug])), (u1, .inl (κ.2 0, 6, .inl (nA fk))), (u2, .inl (κ.2 0, 6, .inl (nA fs))), (u4, .inl (κ.2 1, 8, .inl (zA th))), (u6, .inl (κ.2 0, 8, .inl (oA rc))), (u7, .inl (κ.2 0, 8, .inl (nA pm))), (u8, .inl (κ.2 0, 32, .inl (oA (fl4 ep)))), (u9, .inl (κ.2 0, 6, .inl (nA fw))), (ua, .inl (κ.2 0, 160, .inl (nA se9))), (ub, .inl (κ.2 0, 160, .inl (nA ss9)))]) := by
  refine cmv_of RX9 rfl (by decide) (Nat.le_of_ble_eq_true rfl) ?_
  intro p e s m below meth c A C hAe hA hini
  refine g_lv (lv' := [(0, .ref u0)]) [0] rfl ?_
  have hl6 : len ≤ 6 := hS.1
  have hp64 := pw64 hl6
  refine g_aload_n (pc' := 1) C 0 dX9_finds_0 rfl rfl rfl ?_
  refine g_iconst (pc' := 2) (v := nI 0) C dX9_finds_1 (by decide) rfl ?_
  refine g_put (pc' := 5) (ws' := [(u0, .inr (8, [.int (nI t9), .int (nI n), .ref u1, .ref u2, .int (nI ds), .ref u3, .int (nI mc), .ref u4, .ref u5, .ref u6, .ref u7, .ref u8, .int (nI len), .ref u9, .int (nI ba), .int (nI 0), .ref ua, .ref ub, .ref uc, .ref ud, .ref ue, .int (nI dy), .ref uf, .ref ug])), (u1, .inl (κ.2 0, 6, .inl (nA fk))), (u2, .inl (κ.2 0, 6, .inl (nA fs))), (u4, .inl (κ.2 1, 8, .inl (zA th))), (u6, .inl (κ.2 0, 8, .inl (oA rc))), (u7, .inl (κ.2 0, 8, .inl (nA pm))), (u8, .inl (κ.2 0, 32, .inl (oA (fl4 ep)))), (u9, .inl (κ.2 0, 6, .inl (nA fw))), (ua, .inl (κ.2 0, 160, .inl (nA se))), (ub, .inl (κ.2 0, 160, .inl (nA ss)))]) C fp_RX9_97_8 0 rfl rfl rfl (Nat.le_of_ble_eq_true rfl) rfl dX9_finds_2 rfl ?_
  refine g_iconst (pc' := 6) (v := nI 0) C dX9_finds_5 (by decide) rfl ?_
  refine g_istore_n (pc' := 7) (lv' := [(1, .int (nI 0)), (0, .ref u0)]) C dX9_finds_6 rfl (by decide) rfl rfl ?_
  have lp_a : ∀ (fu_a : Nat) (e9 : Nat) (ct : Nat) (gn : Nat → Nat) (gp : Nat → Nat), (e9 ≤ mc) → (stOK (smN n fk fs len fw rc ck pm ep th e9) ct gn gp (fun i => ck (gn i))) → (mc - e9) < fu_a → G p l e (rmv 2 0 0) s m ([.ref u0] : List Value).toArray below meth c κ 3 (JM A s) [(u0, .inr (8, [.int (nI t9), .int (nI n), .ref u1, .ref u2, .int (nI ds), .ref u3, .int (nI mc), .ref u4, .ref u5, .ref u6, .ref u7, .ref u8, .int (nI len), .ref u9, .int (nI ba), .int (nI ct), .ref ua, .ref ub, .ref uc, .ref ud, .ref ue, .int (nI dy), .ref uf, .ref ug])), (u1, .inl (κ.2 0, 6, .inl (nA fk))), (u2, .inl (κ.2 0, 6, .inl (nA fs))), (u4, .inl (κ.2 1, 8, .inl (zA th))), (u6, .inl (κ.2 0, 8, .inl (oA rc))), (u7, .inl (κ.2 0, 8, .inl (nA pm))), (u8, .inl (κ.2 0, 32, .inl (oA (fl4 ep)))), (u9, .inl (κ.2 0, 6, .inl (nA fw))), (ua, .inl (κ.2 0, 160, .inl (nA gn))), (ub, .inl (κ.2 0, 160, .inl (nA gp)))] 0 0 (MQ below (QMv κ [(u0, .inr (8, [.int (nI t9), .int (nI n), .ref u1, .ref u2, .int (nI ds), .ref u3, .int (nI mc), .ref u4, .ref u5, .ref u6, .ref u7, .ref u8, .int (nI len), .ref u9, .int (nI ba), .int (nI sm), .ref ua, .ref ub, .ref uc, .ref ud, .ref ue, .int (nI dy), .ref uf, .ref ug])), (u1, .inl (κ.2 0, 6, .inl (nA fk))), (u2, .inl (κ.2 0, 6, .inl (nA fs))), (u4, .inl (κ.2 1, 8, .inl (zA th))), (u6, .inl (κ.2 0, 8, .inl (oA rc))), (u7, .inl (κ.2 0, 8, .inl (nA pm))), (u8, .inl (κ.2 0, 32, .inl (oA (fl4 ep)))), (u9, .inl (κ.2 0, 6, .inl (nA fw))), (ua, .inl (κ.2 0, 160, .inl (nA se))), (ub, .inl (κ.2 0, 160, .inl (nA ss)))] s.heap.size (fun (vw_ : va_W) => ∃ (sm9 : Nat), ∃ (se9 : Nat → Nat), ∃ (ss9 : Nat → Nat), (stOK (smN n fk fs len fw rc ck pm ep th mc) sm9 se9 ss9 (fun i => ck (se9 i))) ∧ vw_ = [(u0, .inr (8, [.int (nI t9), .int (nI n), .ref u1, .ref u2, .int (nI ds), .ref u3, .int (nI mc), .ref u4, .ref u5, .ref u6, .ref u7, .ref u8, .int (nI len), .ref u9, .int (nI ba), .int (nI sm9), .ref ua, .ref ub, .ref uc, .ref ud, .ref ue, .int (nI dy), .ref uf, .ref ug])), (u1, .inl (κ.2 0, 6, .inl (nA fk))), (u2, .inl (κ.2 0, 6, .inl (nA fs))), (u4, .inl (κ.2 1, 8, .inl (zA th))), (u6, .inl (κ.2 0, 8, .inl (oA rc))), (u7, .inl (κ.2 0, 8, .inl (nA pm))), (u8, .inl (κ.2 0, 32, .inl (oA (fl4 ep)))), (u9, .inl (κ.2 0, 6, .inl (nA fw))), (ua, .inl (κ.2 0, 160, .inl (nA se9))), (ub, .inl (κ.2 0, 160, .inl (nA ss9)))])) ([.ref u0] : List Value).toArray s 0 0 A) 7 [(1, .int (nI e9)), (0, .ref u0)] [] := by
    intro fu_a
    induction fu_a with
    | zero => intro e9 ct gn gp he hst hmu; exact absurd hmu (Nat.not_lt_zero _)
    | succ fu_a ih_a =>
      intro e9 ct gn gp he hst hmu_a
      refine g_iload_n (pc' := 8) C 0 dX9_finds_7 rfl rfl rfl ?_
      refine g_aload_n (pc' := 9) C 1 dX9_finds_8 rfl rfl rfl ?_
      refine g_get (pc' := 12) C fl_RX9_70_8 0 rfl rfl dX9_finds_9 rfl ?_
      refine g_icmp_geN (pc' := 15) (tgt := 87) C (by first | assumption | omega) (by first | assumption | omega) dX9_finds_12 (by decide) rfl (fun c_12_1 => ?_) (fun c_12_1 => ?_)
      · exact g_retMv C hAe rfl (Nat.le_of_ble_eq_true rfl) (Nat.le_of_ble_eq_true rfl) (⟨ct, gn, gp, by have e : e9 = mc := (by omega); rw [← e]; exact hst, rfl⟩) dX9_finds_87
      · refine g_iconst (pc' := 16) (v := nI 1) C dX9_finds_15 (by decide) rfl ?_
        refine g_istore_n (pc' := 17) (lv' := [(2, .int (nI 1)), (1, .int (nI e9)), (0, .ref u0)]) C dX9_finds_16 rfl (by decide) rfl rfl ?_
        have lp_b : ∀ (fu_b : Nat) (s9 : Nat) (cu : Nat) (hn9 : Nat → Nat) (hp9 : Nat → Nat), (1 ≤ s9) → (s9 ≤ 2 ^ len) → (stOK (smA n fk fs len fw rc ck pm ep th e9 s9) cu hn9 hp9 (fun i => ck (hn9 i))) → (2 ^ len - s9) < fu_b → G p l e (rmv 2 0 0) s m ([.ref u0] : List Value).toArray below meth c κ 3 (JM A s) [(u0, .inr (8, [.int (nI t9), .int (nI n), .ref u1, .ref u2, .int (nI ds), .ref u3, .int (nI mc), .ref u4, .ref u5, .ref u6, .ref u7, .ref u8, .int (nI len), .ref u9, .int (nI ba), .int (nI cu), .ref ua, .ref ub, .ref uc, .ref ud, .ref ue, .int (nI dy), .ref uf, .ref ug])), (u1, .inl (κ.2 0, 6, .inl (nA fk))), (u2, .inl (κ.2 0, 6, .inl (nA fs))), (u4, .inl (κ.2 1, 8, .inl (zA th))), (u6, .inl (κ.2 0, 8, .inl (oA rc))), (u7, .inl (κ.2 0, 8, .inl (nA pm))), (u8, .inl (κ.2 0, 32, .inl (oA (fl4 ep)))), (u9, .inl (κ.2 0, 6, .inl (nA fw))), (ua, .inl (κ.2 0, 160, .inl (nA hn9))), (ub, .inl (κ.2 0, 160, .inl (nA hp9)))] 0 0 (MQ below (QMv κ [(u0, .inr (8, [.int (nI t9), .int (nI n), .ref u1, .ref u2, .int (nI ds), .ref u3, .int (nI mc), .ref u4, .ref u5, .ref u6, .ref u7, .ref u8, .int (nI len), .ref u9, .int (nI ba), .int (nI sm), .ref ua, .ref ub, .ref uc, .ref ud, .ref ue, .int (nI dy), .ref uf, .ref ug])), (u1, .inl (κ.2 0, 6, .inl (nA fk))), (u2, .inl (κ.2 0, 6, .inl (nA fs))), (u4, .inl (κ.2 1, 8, .inl (zA th))), (u6, .inl (κ.2 0, 8, .inl (oA rc))), (u7, .inl (κ.2 0, 8, .inl (nA pm))), (u8, .inl (κ.2 0, 32, .inl (oA (fl4 ep)))), (u9, .inl (κ.2 0, 6, .inl (nA fw))), (ua, .inl (κ.2 0, 160, .inl (nA se))), (ub, .inl (κ.2 0, 160, .inl (nA ss)))] s.heap.size (fun (vw_ : va_W) => ∃ (sm9 : Nat), ∃ (se9 : Nat → Nat), ∃ (ss9 : Nat → Nat), (stOK (smN n fk fs len fw rc ck pm ep th mc) sm9 se9 ss9 (fun i => ck (se9 i))) ∧ vw_ = [(u0, .inr (8, [.int (nI t9), .int (nI n), .ref u1, .ref u2, .int (nI ds), .ref u3, .int (nI mc), .ref u4, .ref u5, .ref u6, .ref u7, .ref u8, .int (nI len), .ref u9, .int (nI ba), .int (nI sm9), .ref ua, .ref ub, .ref uc, .ref ud, .ref ue, .int (nI dy), .ref uf, .ref ug])), (u1, .inl (κ.2 0, 6, .inl (nA fk))), (u2, .inl (κ.2 0, 6, .inl (nA fs))), (u4, .inl (κ.2 1, 8, .inl (zA th))), (u6, .inl (κ.2 0, 8, .inl (oA rc))), (u7, .inl (κ.2 0, 8, .inl (nA pm))), (u8, .inl (κ.2 0, 32, .inl (oA (fl4 ep)))), (u9, .inl (κ.2 0, 6, .inl (nA fw))), (ua, .inl (κ.2 0, 160, .inl (nA se9))), (ub, .inl (κ.2 0, 160, .inl (nA ss9)))])) ([.ref u0] : List Value).toArray s 0 0 A) 17 [(2, .int (nI s9)), (1, .int (nI e9)), (0, .ref u0)] [] := by
          intro fu_b
          induction fu_b with
          | zero => intro s9 cu hn9 hp9 hs1 hs2 hst2 hmu; exact absurd hmu (Nat.not_lt_zero _)
          | succ fu_b ih_b =>
            intro s9 cu hn9 hp9 hs1 hs2 hst2 hmu_b
            refine g_iload_n (pc' := 18) C 0 dX9_finds_17 rfl rfl rfl ?_
            refine g_iconst (pc' := 19) (v := nI 1) C dX9_finds_18 (by decide) rfl ?_
            refine g_aload_n (pc' := 20) C 2 dX9_finds_19 rfl rfl rfl ?_
            refine g_get (pc' := 23) C fl_RX9_94_8 0 rfl rfl dX9_finds_20 rfl ?_
            refine g_ishl (pc' := 24) (v := nI (2 ^ len)) C dX9_finds_23 (nI_shl1 _ (by first | assumption | omega)) rfl ?_
            refine g_icmp_geN (pc' := 27) (tgt := 81) C (by have q9 := pw64 hl6; omega) (by have q9 := pw64 hl6; omega) dX9_finds_24 (by decide) rfl (fun c_24_2 => ?_) (fun c_24_2 => ?_)
            · refine g_iinc (pc' := 84) (v := nI (e9 + 1)) (lv' := [(1, .int (nI (e9 + 1))), (2, .int (nI s9)), (0, .ref u0)]) C 1 dX9_finds_81 rfl (iincN1 _) (by decide) rfl rfl ?_
              refine g_goto (tgt := 7) C dX9_finds_84 (by decide) ?_
              refine g_lv (lv' := [(1, .int (nI (e9 + 1))), (0, .ref u0)]) [0, 2] rfl ?_
              exact ih_a (e9 + 1) cu hn9 hp9 (by first | assumption | omega) (by rw [← smA_e, ← show s9 = 2 ^ len by omega]; exact hst2) (by omega)
            · refine g_aload_n (pc' := 28) C 2 dX9_finds_27 rfl rfl rfl ?_
              refine g_get (pc' := 31) C fl_RX9_19_8 0 rfl rfl dX9_finds_28 rfl ?_
              refine g_iload_n (pc' := 32) C 1 dX9_finds_31 rfl rfl rfl ?_
              refine g_zaldB (pc' := 33) C 3 (f := th) rfl e9 (by first | assumption | omega) (by decide) dX9_finds_32 rfl ?_
              refine g_if_eqB (pc' := 36) (tgt := 81) C dX9_finds_33 (by decide) rfl (fun c_33_3 => ?_) (fun c_33_3 => ?_)
              · refine g_iinc (pc' := 84) (v := nI (e9 + 1)) (lv' := [(1, .int (nI (e9 + 1))), (2, .int (nI s9)), (0, .ref u0)]) C 1 dX9_finds_81 rfl (iincN1 _) (by decide) rfl rfl ?_
                refine g_goto (tgt := 7) C dX9_finds_84 (by decide) ?_
                refine g_lv (lv' := [(1, .int (nI (e9 + 1))), (0, .ref u0)]) [0, 2] rfl ?_
                exact ih_a (e9 + 1) cu hn9 hp9 (by first | assumption | omega) (by rw [← smA_n (s := s9) c_33_3]; exact hst2) (by omega)
              · refine g_aload_n (pc' := 37) C 2 dX9_finds_36 rfl rfl rfl ?_
                refine g_iload_n (pc' := 38) C 1 dX9_finds_37 rfl rfl rfl ?_
                refine g_iload_n (pc' := 39) C 0 dX9_finds_38 rfl rfl rfl ?_
                refine g_callP (pc' := 42) C lk_RX9_100 (kX9_stands l κ u0 u1 u2 u3 u4 u5 u6 u7 u8 u9 ua ub uc ud ue uf ug t9 n ds mc len ba cu dy fk fs rc ck pm ep fw e9 s9 (by first | assumption | omega) (by first | assumption | omega) (by first | assumption | omega) (by first | assumption | omega) (by first | assumption | omega) (by first | assumption | omega) (by first | assumption | omega) (by first | assumption | omega)) 0 rfl rfl [0, 1, 2, 4, 5, 6, 7] rfl rfl (Nat.le_of_ble_eq_true rfl) ⟨Nat.le_of_ble_eq_true rfl, Nat.le_of_ble_eq_true rfl⟩ ⟨Nat.le_of_ble_eq_true rfl, Nat.le_of_ble_eq_true rfl⟩ rfl dX9_finds_39 rfl (fun r_39_4 h_39_4 => ?_)
                obtain rfl : r_39_4 = b2i (stS n fk fs len fw (rc e9) (pm e9) (ep e9) s9) := h_39_4
                refine g_if_eqB (pc' := 45) (tgt := 75) C dX9_finds_42 (by decide) rfl (fun c_42_5 => ?_) (fun c_42_5 => ?_)
                · refine g_iinc (pc' := 78) (v := nI (s9 + 1)) (lv' := [(2, .int (nI (s9 + 1))), (1, .int (nI e9)), (0, .ref u0)]) C 0 dX9_finds_75 rfl (iincN1 _) (by decide) rfl rfl ?_
                  refine g_goto (tgt := 17) C dX9_finds_78 (by decide) ?_
                  exact ih_b (s9 + 1) cu hn9 hp9 (by first | assumption | omega) (by first | assumption | omega) (by rw [smA_f c_42_5]; exact hst2) (by omega)
                · refine g_aload_n (pc' := 46) C 2 dX9_finds_45 rfl rfl rfl ?_
                  refine g_get (pc' := 49) C fl_RX9_42_8 0 rfl rfl dX9_finds_46 rfl ?_
                  refine g_aload_n (pc' := 50) C 2 dX9_finds_49 rfl rfl rfl ?_
                  refine g_get (pc' := 53) C fl_RX9_97_8 0 rfl rfl dX9_finds_50 rfl ?_
                  refine g_iload_n (pc' := 54) C 1 dX9_finds_53 rfl rfl rfl ?_
                  refine g_iastN (pc' := 55) (ws' := [(u0, .inr (8, [.int (nI t9), .int (nI n), .ref u1, .ref u2, .int (nI ds), .ref u3, .int (nI mc), .ref u4, .ref u5, .ref u6, .ref u7, .ref u8, .int (nI len), .ref u9, .int (nI ba), .int (nI cu), .ref ua, .ref ub, .ref uc, .ref ud, .ref ue, .int (nI dy), .ref uf, .ref ug])), (u1, .inl (κ.2 0, 6, .inl (nA fk))), (u2, .inl (κ.2 0, 6, .inl (nA fs))), (u4, .inl (κ.2 1, 8, .inl (zA th))), (u6, .inl (κ.2 0, 8, .inl (oA rc))), (u7, .inl (κ.2 0, 8, .inl (nA pm))), (u8, .inl (κ.2 0, 32, .inl (oA (fl4 ep)))), (u9, .inl (κ.2 0, 6, .inl (nA fw))), (ua, .inl (κ.2 0, 160, .inl (nA (va_up hn9 cu e9)))), (ub, .inl (κ.2 0, 160, .inl (nA hp9)))]) C 8 rfl cu (by have q9 := smA_len (n := n) (fk := fk) (fs := fs) (rc := rc) (ck := ck) (pm := pm) (ep := ep) (th := th) hS hE hth hm (e := e9) (s := s9) (by omega) hs2; have q8 := hst2.1; omega) (by decide) rfl dX9_finds_54 rfl ?_
                  refine g_aload_n (pc' := 56) C 2 dX9_finds_55 rfl rfl rfl ?_
                  refine g_get (pc' := 59) C fl_RX9_45_8 0 rfl rfl dX9_finds_56 rfl ?_
                  refine g_aload_n (pc' := 60) C 2 dX9_finds_59 rfl rfl rfl ?_
                  refine g_get (pc' := 63) C fl_RX9_97_8 0 rfl rfl dX9_finds_60 rfl ?_
                  refine g_iload_n (pc' := 64) C 0 dX9_finds_63 rfl rfl rfl ?_
                  refine g_iastN (pc' := 65) (ws' := [(u0, .inr (8, [.int (nI t9), .int (nI n), .ref u1, .ref u2, .int (nI ds), .ref u3, .int (nI mc), .ref u4, .ref u5, .ref u6, .ref u7, .ref u8, .int (nI len), .ref u9, .int (nI ba), .int (nI cu), .ref ua, .ref ub, .ref uc, .ref ud, .ref ue, .int (nI dy), .ref uf, .ref ug])), (u1, .inl (κ.2 0, 6, .inl (nA fk))), (u2, .inl (κ.2 0, 6, .inl (nA fs))), (u4, .inl (κ.2 1, 8, .inl (zA th))), (u6, .inl (κ.2 0, 8, .inl (oA rc))), (u7, .inl (κ.2 0, 8, .inl (nA pm))), (u8, .inl (κ.2 0, 32, .inl (oA (fl4 ep)))), (u9, .inl (κ.2 0, 6, .inl (nA fw))), (ua, .inl (κ.2 0, 160, .inl (nA (va_up hn9 cu e9)))), (ub, .inl (κ.2 0, 160, .inl (nA (va_up hp9 cu s9))))]) C 9 rfl cu (by have q9 := smA_len (n := n) (fk := fk) (fs := fs) (rc := rc) (ck := ck) (pm := pm) (ep := ep) (th := th) hS hE hth hm (e := e9) (s := s9) (by omega) hs2; have q8 := hst2.1; omega) (by decide) rfl dX9_finds_64 rfl ?_
                  refine g_aload_n (pc' := 66) C 2 dX9_finds_65 rfl rfl rfl ?_
                  refine g_dup (pc' := 67) C dX9_finds_66 rfl rfl ?_
                  refine g_get (pc' := 70) C fl_RX9_97_8 0 rfl rfl dX9_finds_67 rfl ?_
                  refine g_iconst (pc' := 71) (v := nI 1) C dX9_finds_70 (by decide) rfl ?_
                  refine g_iadd (pc' := 72) (v := nI (cu + 1)) C dX9_finds_71 (nI_add _ _) rfl ?_
                  refine g_put (pc' := 75) (ws' := [(u0, .inr (8, [.int (nI t9), .int (nI n), .ref u1, .ref u2, .int (nI ds), .ref u3, .int (nI mc), .ref u4, .ref u5, .ref u6, .ref u7, .ref u8, .int (nI len), .ref u9, .int (nI ba), .int (nI (cu + 1)), .ref ua, .ref ub, .ref uc, .ref ud, .ref ue, .int (nI dy), .ref uf, .ref ug])), (u1, .inl (κ.2 0, 6, .inl (nA fk))), (u2, .inl (κ.2 0, 6, .inl (nA fs))), (u4, .inl (κ.2 1, 8, .inl (zA th))), (u6, .inl (κ.2 0, 8, .inl (oA rc))), (u7, .inl (κ.2 0, 8, .inl (nA pm))), (u8, .inl (κ.2 0, 32, .inl (oA (fl4 ep)))), (u9, .inl (κ.2 0, 6, .inl (nA fw))), (ua, .inl (κ.2 0, 160, .inl (nA (va_up hn9 cu e9)))), (ub, .inl (κ.2 0, 160, .inl (nA (va_up hp9 cu s9))))]) C fp_RX9_97_8 0 rfl rfl rfl (Nat.le_of_ble_eq_true rfl) rfl dX9_finds_72 rfl ?_
                  refine g_iinc (pc' := 78) (v := nI (s9 + 1)) (lv' := [(2, .int (nI (s9 + 1))), (1, .int (nI e9)), (0, .ref u0)]) C 0 dX9_finds_75 rfl (iincN1 _) (by decide) rfl rfl ?_
                  refine g_goto (tgt := 17) C dX9_finds_78 (by decide) ?_
                  exact ih_b (s9 + 1) (cu + 1) (va_up hn9 cu e9) (va_up hp9 cu s9) (by first | assumption | omega) (by first | assumption | omega) (by rw [smA_t c_33_3 (by omega) c_42_5]; exact stOM_put hst2 _ _) (by omega)
        exact lp_b 65 1 ct gn gp (by first | assumption | omega) (Nat.one_le_two_pow) (by rw [smA_1]; exact hst) (by omega)
  exact lp_a 9 0 0 se ss (Nat.zero_le _) stOK_0 (by omega)

set_option maxHeartbeats 4000000 in
set_option maxRecDepth 100000 in
theorem kX9_chooses (l : Launch) (κ : KK) (u0 : Nat) (u1 : Nat) (u2 : Nat) (u3 : Nat) (u4 : Nat) (u5 : Nat) (u6 : Nat) (u7 : Nat) (u8 : Nat) (u9 : Nat) (ua : Nat) (ub : Nat) (uc : Nat) (ud : Nat) (ue : Nat) (uf : Nat) (ug : Nat) (t9 : Nat) (n : Nat) (ds : Nat) (mc : Nat) (len : Nat) (ba : Nat) (sm : Nat) (dy : Nat) (ck : Nat → Nat) (se : Nat → Nat) (ss : Nat → Nat) (be : Nat → Nat) (gl : Nat → Option Nat) (st9 : Nat → Nat) (L : SL) (t : Nat) (pl : Nat) (hx : stOK (L) sm se ss (fun i => ck (se i))) (hL : LW len L) (h120 : sm ≤ 120) (hn8 : ∀ x ∈ L, x.1 < 8 ∧ x.2.2 ≤ 20) (hbe : ∀ u, u ≤ 2 ^ len - 1 → be u = bM L len ba u) (hba : ba ≤ 50) (ht : t < 2 ^ len) (hpl : pl < len) : CMi l yX9_chooses cX9_chooses 6 (some .int) 0 0 0 κ [.ref u0, .int (nI t), .int (nI pl)] [(u0, .inr (8, [.int (nI t9), .int (nI n), .ref u1, .ref u2, .int (nI ds), .ref u3, .int (nI mc), .ref u4, .ref u5, .ref u6, .ref u7, .ref u8, .int (nI len), .ref u9, .int (nI ba), .int (nI sm), .ref ua, .ref ub, .ref uc, .ref ud, .ref ue, .int (nI dy), .ref uf, .ref ug])), (u5, .inl (κ.2 0, 8, .inl (nA ck))), (ua, .inl (κ.2 0, 160, .inl (nA se))), (ub, .inl (κ.2 0, 160, .inl (nA ss))), (uc, .inl (κ.2 0, 64, .inl (nA be))), (ud, .inl (κ.2 0, 6, .inl (oA gl))), (ue, .inl (κ.2 0, 6, .inl (nA st9)))] (fun (vr_ : Int32) (vw_ : va_W) => ∃ (gl9 : Nat → Option Nat), ∃ (ts9 : Nat → Nat), (∀ j, j < 6 → tb (mcS (mcL L len ba pl t) pl) j = true → gl9 j = (mcL L len ba pl t).map (fun x => x.1) ∧ ts9 j = ((mcL L len ba pl t).map (fun x => x.2.1)).getD 0) ∧ (∀ j, j < 6 → tb (mcS (mcL L len ba pl t) pl) j = false → gl9 j = gl j ∧ ts9 j = st9 j) ∧ vr_ = nI (mcS (mcL L len ba pl t) pl) ∧ vw_ = [(u0, .inr (8, [.int (nI t9), .int (nI n), .ref u1, .ref u2, .int (nI ds), .ref u3, .int (nI mc), .ref u4, .ref u5, .ref u6, .ref u7, .ref u8, .int (nI len), .ref u9, .int (nI ba), .int (nI sm), .ref ua, .ref ub, .ref uc, .ref ud, .ref ue, .int (nI dy), .ref uf, .ref ug])), (u5, .inl (κ.2 0, 8, .inl (nA ck))), (ua, .inl (κ.2 0, 160, .inl (nA se))), (ub, .inl (κ.2 0, 160, .inl (nA ss))), (uc, .inl (κ.2 0, 64, .inl (nA be))), (ud, .inl (κ.2 0, 6, .inl (oA gl9))), (ue, .inl (κ.2 0, 6, .inl (nA ts9)))]) := by
  refine cmi_of RX9 rfl (by decide) (Nat.le_of_ble_eq_true rfl) ?_
  intro p e s m below meth c A C hAe hA hini
  refine g_lv (lv' := [(0, .ref u0), (1, .int (nI t)), (2, .int (nI pl))]) [0, 1, 2] rfl ?_
  have hl6 : len ≤ 6 := hL.1
  have hp64 := pw64 hl6
  refine g_iconst (pc' := 1) (v := nI 0) C dX9_chooses_0 (by decide) rfl ?_
  refine g_istore_n (pc' := 2) (lv' := [(3, .int (nI 0)), (0, .ref u0), (1, .int (nI t)), (2, .int (nI pl))]) C dX9_chooses_1 rfl (by decide) rfl rfl ?_
  have lp_a : ∀ (fu_a : Nat) (k : Nat), (k ≤ sm) → (∀ j, j < k → mcP L len ba pl t (se j, ss j, ck (se j)) = false) → (sm - k) < fu_a → G p l e (rmv 0 0 0) s m ([.ref u0, .int (nI t), .int (nI pl)] : List Value).toArray below meth c κ 6 (JM A s) [(u0, .inr (8, [.int (nI t9), .int (nI n), .ref u1, .ref u2, .int (nI ds), .ref u3, .int (nI mc), .ref u4, .ref u5, .ref u6, .ref u7, .ref u8, .int (nI len), .ref u9, .int (nI ba), .int (nI sm), .ref ua, .ref ub, .ref uc, .ref ud, .ref ue, .int (nI dy), .ref uf, .ref ug])), (u5, .inl (κ.2 0, 8, .inl (nA ck))), (ua, .inl (κ.2 0, 160, .inl (nA se))), (ub, .inl (κ.2 0, 160, .inl (nA ss))), (uc, .inl (κ.2 0, 64, .inl (nA be))), (ud, .inl (κ.2 0, 6, .inl (oA gl))), (ue, .inl (κ.2 0, 6, .inl (nA st9)))] 0 0 (MQ below (QMi κ [(u0, .inr (8, [.int (nI t9), .int (nI n), .ref u1, .ref u2, .int (nI ds), .ref u3, .int (nI mc), .ref u4, .ref u5, .ref u6, .ref u7, .ref u8, .int (nI len), .ref u9, .int (nI ba), .int (nI sm), .ref ua, .ref ub, .ref uc, .ref ud, .ref ue, .int (nI dy), .ref uf, .ref ug])), (u5, .inl (κ.2 0, 8, .inl (nA ck))), (ua, .inl (κ.2 0, 160, .inl (nA se))), (ub, .inl (κ.2 0, 160, .inl (nA ss))), (uc, .inl (κ.2 0, 64, .inl (nA be))), (ud, .inl (κ.2 0, 6, .inl (oA gl))), (ue, .inl (κ.2 0, 6, .inl (nA st9)))] s.heap.size (fun (vr_ : Int32) (vw_ : va_W) => ∃ (gl9 : Nat → Option Nat), ∃ (ts9 : Nat → Nat), (∀ j, j < 6 → tb (mcS (mcL L len ba pl t) pl) j = true → gl9 j = (mcL L len ba pl t).map (fun x => x.1) ∧ ts9 j = ((mcL L len ba pl t).map (fun x => x.2.1)).getD 0) ∧ (∀ j, j < 6 → tb (mcS (mcL L len ba pl t) pl) j = false → gl9 j = gl j ∧ ts9 j = st9 j) ∧ vr_ = nI (mcS (mcL L len ba pl t) pl) ∧ vw_ = [(u0, .inr (8, [.int (nI t9), .int (nI n), .ref u1, .ref u2, .int (nI ds), .ref u3, .int (nI mc), .ref u4, .ref u5, .ref u6, .ref u7, .ref u8, .int (nI len), .ref u9, .int (nI ba), .int (nI sm), .ref ua, .ref ub, .ref uc, .ref ud, .ref ue, .int (nI dy), .ref uf, .ref ug])), (u5, .inl (κ.2 0, 8, .inl (nA ck))), (ua, .inl (κ.2 0, 160, .inl (nA se))), (ub, .inl (κ.2 0, 160, .inl (nA ss))), (uc, .inl (κ.2 0, 64, .inl (nA be))), (ud, .inl (κ.2 0, 6, .inl (oA gl9))), (ue, .inl (κ.2 0, 6, .inl (nA ts9)))])) ([.ref u0, .int (nI t), .int (nI pl)] : List Value).toArray s 0 0 A) 2 [(3, .int (nI k)), (0, .ref u0), (1, .int (nI t)), (2, .int (nI pl))] [] := by
    intro fu_a
    induction fu_a with
    | zero => intro k hk hno hmu; exact absurd hmu (Nat.not_lt_zero _)
    | succ fu_a ih_a =>
      intro k hk hno hmu_a
      refine g_iload_n (pc' := 3) C 0 dX9_chooses_2 rfl rfl rfl ?_
      refine g_aload_n (pc' := 4) C 1 dX9_chooses_3 rfl rfl rfl ?_
      refine g_get (pc' := 7) C fl_RX9_97_8 0 rfl rfl dX9_chooses_4 rfl ?_
      refine g_icmp_geN (pc' := 10) (tgt := 153) C (by first | assumption | omega) (by first | assumption | omega) dX9_chooses_7 (by decide) rfl (fun c_7_1 => ?_) (fun c_7_1 => ?_)
      · have ho := mc_no hx (fun j hj => hno j (by omega))
        refine g_aload_n (pc' := 154) C 1 dX9_chooses_153 rfl rfl rfl ?_
        refine g_get (pc' := 157) C fl_RX9_51_8 0 rfl rfl dX9_chooses_154 rfl ?_
        refine g_iload_n (pc' := 158) C 3 dX9_chooses_157 rfl rfl rfl ?_
        refine g_iconst (pc' := 159) (v := (-1)) C dX9_chooses_158 (by decide) rfl ?_
        refine g_iastO (pc' := 160) (x := none) (ws' := [(u0, .inr (8, [.int (nI t9), .int (nI n), .ref u1, .ref u2, .int (nI ds), .ref u3, .int (nI mc), .ref u4, .ref u5, .ref u6, .ref u7, .ref u8, .int (nI len), .ref u9, .int (nI ba), .int (nI sm), .ref ua, .ref ub, .ref uc, .ref ud, .ref ue, .int (nI dy), .ref uf, .ref ug])), (u5, .inl (κ.2 0, 8, .inl (nA ck))), (ua, .inl (κ.2 0, 160, .inl (nA se))), (ub, .inl (κ.2 0, 160, .inl (nA ss))), (uc, .inl (κ.2 0, 64, .inl (nA be))), (ud, .inl (κ.2 0, 6, .inl (oA (va_up gl pl none)))), (ue, .inl (κ.2 0, 6, .inl (nA st9)))]) C 5 rfl rfl pl (by first | assumption | omega) (by decide) rfl dX9_chooses_159 rfl ?_
        refine g_aload_n (pc' := 161) C 1 dX9_chooses_160 rfl rfl rfl ?_
        refine g_get (pc' := 164) C fl_RX9_54_8 0 rfl rfl dX9_chooses_161 rfl ?_
        refine g_iload_n (pc' := 165) C 3 dX9_chooses_164 rfl rfl rfl ?_
        refine g_iconst (pc' := 166) (v := nI 0) C dX9_chooses_165 (by decide) rfl ?_
        refine g_iastN (pc' := 167) (ws' := [(u0, .inr (8, [.int (nI t9), .int (nI n), .ref u1, .ref u2, .int (nI ds), .ref u3, .int (nI mc), .ref u4, .ref u5, .ref u6, .ref u7, .ref u8, .int (nI len), .ref u9, .int (nI ba), .int (nI sm), .ref ua, .ref ub, .ref uc, .ref ud, .ref ue, .int (nI dy), .ref uf, .ref ug])), (u5, .inl (κ.2 0, 8, .inl (nA ck))), (ua, .inl (κ.2 0, 160, .inl (nA se))), (ub, .inl (κ.2 0, 160, .inl (nA ss))), (uc, .inl (κ.2 0, 64, .inl (nA be))), (ud, .inl (κ.2 0, 6, .inl (oA (va_up gl pl none)))), (ue, .inl (κ.2 0, 6, .inl (nA (va_up st9 pl 0))))]) C 6 rfl pl (by first | assumption | omega) (by decide) rfl dX9_chooses_166 rfl ?_
        refine g_iconst (pc' := 168) (v := nI 1) C dX9_chooses_167 (by decide) rfl ?_
        refine g_iload_n (pc' := 169) C 3 dX9_chooses_168 rfl rfl rfl ?_
        refine g_ishl (pc' := 170) (v := nI (2 ^ pl)) C dX9_chooses_169 (nI_shl1 _ (by first | assumption | omega)) rfl ?_
        exact g_retMi C hAe rfl rfl (Nat.le_of_ble_eq_true rfl) (Nat.le_of_ble_eq_true rfl) (⟨_, _, (fun j hj hc => by rw [ho] at hc ⊢; have e : j = pl := tb_pw (by have := hL.1; omega) hj hc; rw [e]; exact ⟨va_up_self _ _ _, va_up_self _ _ _⟩), (fun j hj hc => by rw [ho] at hc; have e : j ≠ pl := tb_pwn (by have := hL.1; omega) hj hc; exact ⟨va_up_ne _ _ e, va_up_ne _ _ e⟩), by rw [ho]; rfl, rfl⟩) dX9_chooses_170
      · have hkx := stOK_get hx (show k < sm by omega)
        have hx1 : 0 < ss k ∧ ss k < 64 := hL.lt hkx.1
        have hx2 : se k < 8 ∧ ck (se k) ≤ 20 := hn8 _ hkx.1
        have hx3 : ss k < 2 ^ len := (hL.2 _ hkx.1).2
        have hor : t ||| ss k < 2 ^ len := or_lt ht hx3
        have hbk : be (t ||| ss k) = bM L len ba (t ||| ss k) := hbe _ (by omega)
        have hbt : be t = bM L len ba t := hbe _ (by omega)
        refine g_aload_n (pc' := 11) C 1 dX9_chooses_10 rfl rfl rfl ?_
        refine g_get (pc' := 14) C fl_RX9_45_8 0 rfl rfl dX9_chooses_11 rfl ?_
        refine g_iload_n (pc' := 15) C 0 dX9_chooses_14 rfl rfl rfl ?_
        refine g_ialdN (pc' := 16) C 3 (f := ss) rfl k (by first | assumption | omega) (by decide) dX9_chooses_15 rfl ?_
        refine g_iload_n (pc' := 17) C 3 dX9_chooses_16 rfl rfl rfl ?_
        refine g_ishr (pc' := 18) (v := nI ((ss k) / 2 ^ pl)) C dX9_chooses_17 (nI_shr _ _ (by omega) (by first | assumption | omega)) rfl ?_
        refine g_iconst (pc' := 19) (v := nI 1) C dX9_chooses_18 (by decide) rfl ?_
        refine g_iand (pc' := 20) (v := nI (((ss k) / 2 ^ pl) &&& 1)) C dX9_chooses_19 (nI_and _ _) rfl ?_
        refine g_iconst (pc' := 21) (v := nI 1) C dX9_chooses_20 (by decide) rfl ?_
        refine g_icmp_neN (pc' := 24) (tgt := 39) C (by have := bit_le (ss k) pl; omega) (by first | assumption | omega) dX9_chooses_21 (by decide) rfl (fun c_21_2 => ?_) (fun c_21_2 => ?_)
        · refine g_iconst (pc' := 40) (v := nI 0) C dX9_chooses_39 (by decide) rfl ?_
          refine g_istore (pc' := 42) (lv' := [(4, .int (nI 0)), (3, .int (nI k)), (0, .ref u0), (1, .int (nI t)), (2, .int (nI pl))]) C dX9_chooses_40 (by decide) rfl rfl ?_
          refine g_iload (pc' := 44) C 0 dX9_chooses_42 rfl rfl ?_
          refine g_if_eqN (pc' := 47) (tgt := 147) C (by first | assumption | omega) dX9_chooses_44 (by decide) rfl (fun _ => ?_) (fun z => absurd z (by decide))
          refine g_iinc (pc' := 150) (v := nI (k + 1)) (lv' := [(3, .int (nI (k + 1))), (4, .int (nI 0)), (0, .ref u0), (1, .int (nI t)), (2, .int (nI pl))]) C 1 dX9_chooses_147 rfl (iincN1 _) (by decide) rfl rfl ?_
          refine g_goto (tgt := 2) C dX9_chooses_150 (by decide) ?_
          refine g_lv (lv' := [(3, .int (nI (k + 1))), (0, .ref u0), (1, .int (nI t)), (2, .int (nI pl))]) [0, 2, 3, 4] rfl ?_
          exact ih_a (k + 1) (by first | assumption | omega) (lt_s hno (by unfold mcP; rw [can_f1 c_21_2]; rfl)) (by omega)
        · refine g_aload_n (pc' := 25) C 1 dX9_chooses_24 rfl rfl rfl ?_
          refine g_get (pc' := 28) C fl_RX9_45_8 0 rfl rfl dX9_chooses_25 rfl ?_
          refine g_iload_n (pc' := 29) C 0 dX9_chooses_28 rfl rfl rfl ?_
          refine g_ialdN (pc' := 30) C 3 (f := ss) rfl k (by first | assumption | omega) (by decide) dX9_chooses_29 rfl ?_
          refine g_iload_n (pc' := 31) C 2 dX9_chooses_30 rfl rfl rfl ?_
          refine g_iand (pc' := 32) (v := nI ((ss k) &&& t)) C dX9_chooses_31 (nI_and _ _) rfl ?_
          refine g_if_neN (pc' := 35) (tgt := 39) C (by have : ss k &&& t ≤ ss k := Nat.and_le_left; omega) dX9_chooses_32 (by decide) rfl (fun c_32_4 => ?_) (fun c_32_4 => ?_)
          · refine g_iconst (pc' := 40) (v := nI 0) C dX9_chooses_39 (by decide) rfl ?_
            refine g_istore (pc' := 42) (lv' := [(4, .int (nI 0)), (3, .int (nI k)), (0, .ref u0), (1, .int (nI t)), (2, .int (nI pl))]) C dX9_chooses_40 (by decide) rfl rfl ?_
            refine g_iload (pc' := 44) C 0 dX9_chooses_42 rfl rfl ?_
            refine g_if_eqN (pc' := 47) (tgt := 147) C (by first | assumption | omega) dX9_chooses_44 (by decide) rfl (fun _ => ?_) (fun z => absurd z (by decide))
            refine g_iinc (pc' := 150) (v := nI (k + 1)) (lv' := [(3, .int (nI (k + 1))), (4, .int (nI 0)), (0, .ref u0), (1, .int (nI t)), (2, .int (nI pl))]) C 1 dX9_chooses_147 rfl (iincN1 _) (by decide) rfl rfl ?_
            refine g_goto (tgt := 2) C dX9_chooses_150 (by decide) ?_
            refine g_lv (lv' := [(3, .int (nI (k + 1))), (0, .ref u0), (1, .int (nI t)), (2, .int (nI pl))]) [0, 2, 3, 4] rfl ?_
            exact ih_a (k + 1) (by first | assumption | omega) (lt_s hno (by unfold mcP; rw [can_f2 c_32_4]; rfl)) (by omega)
          · refine g_iconst (pc' := 36) (v := nI 1) C dX9_chooses_35 (by decide) rfl ?_
            refine g_goto (tgt := 40) C dX9_chooses_36 (by decide) ?_
            refine g_istore (pc' := 42) (lv' := [(4, .int (nI 1)), (3, .int (nI k)), (0, .ref u0), (1, .int (nI t)), (2, .int (nI pl))]) C dX9_chooses_40 (by decide) rfl rfl ?_
            refine g_iload (pc' := 44) C 0 dX9_chooses_42 rfl rfl ?_
            refine g_if_eqN (pc' := 47) (tgt := 147) C (by first | assumption | omega) dX9_chooses_44 (by decide) rfl (fun z => absurd z (by decide)) (fun _ => ?_)
            refine g_aload_n (pc' := 48) C 2 dX9_chooses_47 rfl rfl rfl ?_
            refine g_get (pc' := 51) C fl_RX9_23_8 0 rfl rfl dX9_chooses_48 rfl ?_
            refine g_aload_n (pc' := 52) C 2 dX9_chooses_51 rfl rfl rfl ?_
            refine g_get (pc' := 55) C fl_RX9_42_8 0 rfl rfl dX9_chooses_52 rfl ?_
            refine g_iload_n (pc' := 56) C 1 dX9_chooses_55 rfl rfl rfl ?_
            refine g_ialdN (pc' := 57) C 2 (f := se) rfl k (by first | assumption | omega) (by decide) dX9_chooses_56 rfl ?_
            refine g_ialdN (pc' := 58) C 1 (f := ck) rfl (se k) hx2.1 (by decide) dX9_chooses_57 rfl ?_
            refine g_aload_n (pc' := 59) C 2 dX9_chooses_58 rfl rfl rfl ?_
            refine g_get (pc' := 62) C fl_RX9_48_8 0 rfl rfl dX9_chooses_59 rfl ?_
            refine g_iload_n (pc' := 63) C 3 dX9_chooses_62 rfl rfl rfl ?_
            refine g_aload_n (pc' := 64) C 2 dX9_chooses_63 rfl rfl rfl ?_
            refine g_get (pc' := 67) C fl_RX9_45_8 0 rfl rfl dX9_chooses_64 rfl ?_
            refine g_iload_n (pc' := 68) C 1 dX9_chooses_67 rfl rfl rfl ?_
            refine g_ialdN (pc' := 69) C 3 (f := ss) rfl k (by first | assumption | omega) (by decide) dX9_chooses_68 rfl ?_
            refine g_ior (pc' := 70) (v := nI (t ||| (ss k))) C dX9_chooses_69 (nI_or _ _) rfl ?_
            refine g_ialdN (pc' := 71) C 4 (f := be) rfl (t ||| (ss k)) (by omega) (by decide) dX9_chooses_70 rfl ?_
            refine g_iadd (pc' := 72) (v := nI ((ck (se k)) + (be (t ||| (ss k))))) C dX9_chooses_71 (nI_add _ _) rfl ?_
            refine g_aload_n (pc' := 73) C 2 dX9_chooses_72 rfl rfl rfl ?_
            refine g_get (pc' := 76) C fl_RX9_48_8 0 rfl rfl dX9_chooses_73 rfl ?_
            refine g_iload_n (pc' := 77) C 3 dX9_chooses_76 rfl rfl rfl ?_
            refine g_ialdN (pc' := 78) C 4 (f := be) rfl t (by first | assumption | omega) (by decide) dX9_chooses_77 rfl ?_
            refine g_icmp_neN (pc' := 81) (tgt := 147) C (by have := bM_le (L := L) (len := len) (u := t ||| ss k) hba; have := hx2.2; omega) (by have := bM_le (L := L) (len := len) (u := t) hba; omega) dX9_chooses_78 (by decide) rfl (fun c_78_7 => ?_) (fun c_78_7 => ?_)
            · refine g_iinc (pc' := 150) (v := nI (k + 1)) (lv' := [(3, .int (nI (k + 1))), (4, .int (nI 1)), (0, .ref u0), (1, .int (nI t)), (2, .int (nI pl))]) C 1 dX9_chooses_147 rfl (iincN1 _) (by decide) rfl rfl ?_
              refine g_goto (tgt := 2) C dX9_chooses_150 (by decide) ?_
              refine g_lv (lv' := [(3, .int (nI (k + 1))), (0, .ref u0), (1, .int (nI t)), (2, .int (nI pl))]) [0, 2, 3, 4] rfl ?_
              exact ih_a (k + 1) (by first | assumption | omega) (lt_s hno (by unfold mcP; rw [can_t c_21_2 c_32_4, decide_eq_false (show ¬ (ck (se k) + bM L len ba (t ||| ss k) = bM L len ba t) from fun q => c_78_7 (by rw [hbk, hbt]; exact q))]; rfl)) (by omega)
            · have ho := mc_is hx (show k < sm by omega) hno (by unfold mcP; rw [can_t c_21_2 c_32_4, decide_eq_true (show ck (se k) + bM L len ba (t ||| ss k) = bM L len ba t from by rw [← hbk, ← hbt]; exact c_78_7)]; rfl)
              refine g_iconst (pc' := 82) (v := nI 0) C dX9_chooses_81 (by decide) rfl ?_
              refine g_istore (pc' := 84) (lv' := [(5, .int (nI 0)), (4, .int (nI 1)), (3, .int (nI k)), (0, .ref u0), (1, .int (nI t)), (2, .int (nI pl))]) C dX9_chooses_82 (by decide) rfl rfl ?_
              have lp_b : ∀ (fu_b : Nat) (q9 : Nat) (g8 : Nat → Option Nat) (s8 : Nat → Nat), (q9 ≤ len) → (g8 = mkA gl (ss k) (some (se k)) q9) → (s8 = mkA st9 (ss k) (ss k) q9) → (len - q9) < fu_b → G p l e (rmv 0 0 0) s m ([.ref u0, .int (nI t), .int (nI pl)] : List Value).toArray below meth c κ 6 (JM A s) [(u0, .inr (8, [.int (nI t9), .int (nI n), .ref u1, .ref u2, .int (nI ds), .ref u3, .int (nI mc), .ref u4, .ref u5, .ref u6, .ref u7, .ref u8, .int (nI len), .ref u9, .int (nI ba), .int (nI sm), .ref ua, .ref ub, .ref uc, .ref ud, .ref ue, .int (nI dy), .ref uf, .ref ug])), (u5, .inl (κ.2 0, 8, .inl (nA ck))), (ua, .inl (κ.2 0, 160, .inl (nA se))), (ub, .inl (κ.2 0, 160, .inl (nA ss))), (uc, .inl (κ.2 0, 64, .inl (nA be))), (ud, .inl (κ.2 0, 6, .inl (oA g8))), (ue, .inl (κ.2 0, 6, .inl (nA s8)))] 0 0 (MQ below (QMi κ [(u0, .inr (8, [.int (nI t9), .int (nI n), .ref u1, .ref u2, .int (nI ds), .ref u3, .int (nI mc), .ref u4, .ref u5, .ref u6, .ref u7, .ref u8, .int (nI len), .ref u9, .int (nI ba), .int (nI sm), .ref ua, .ref ub, .ref uc, .ref ud, .ref ue, .int (nI dy), .ref uf, .ref ug])), (u5, .inl (κ.2 0, 8, .inl (nA ck))), (ua, .inl (κ.2 0, 160, .inl (nA se))), (ub, .inl (κ.2 0, 160, .inl (nA ss))), (uc, .inl (κ.2 0, 64, .inl (nA be))), (ud, .inl (κ.2 0, 6, .inl (oA gl))), (ue, .inl (κ.2 0, 6, .inl (nA st9)))] s.heap.size (fun (vr_ : Int32) (vw_ : va_W) => ∃ (gl9 : Nat → Option Nat), ∃ (ts9 : Nat → Nat), (∀ j, j < 6 → tb (mcS (mcL L len ba pl t) pl) j = true → gl9 j = (mcL L len ba pl t).map (fun x => x.1) ∧ ts9 j = ((mcL L len ba pl t).map (fun x => x.2.1)).getD 0) ∧ (∀ j, j < 6 → tb (mcS (mcL L len ba pl t) pl) j = false → gl9 j = gl j ∧ ts9 j = st9 j) ∧ vr_ = nI (mcS (mcL L len ba pl t) pl) ∧ vw_ = [(u0, .inr (8, [.int (nI t9), .int (nI n), .ref u1, .ref u2, .int (nI ds), .ref u3, .int (nI mc), .ref u4, .ref u5, .ref u6, .ref u7, .ref u8, .int (nI len), .ref u9, .int (nI ba), .int (nI sm), .ref ua, .ref ub, .ref uc, .ref ud, .ref ue, .int (nI dy), .ref uf, .ref ug])), (u5, .inl (κ.2 0, 8, .inl (nA ck))), (ua, .inl (κ.2 0, 160, .inl (nA se))), (ub, .inl (κ.2 0, 160, .inl (nA ss))), (uc, .inl (κ.2 0, 64, .inl (nA be))), (ud, .inl (κ.2 0, 6, .inl (oA gl9))), (ue, .inl (κ.2 0, 6, .inl (nA ts9)))])) ([.ref u0, .int (nI t), .int (nI pl)] : List Value).toArray s 0 0 A) 84 [(5, .int (nI q9)), (4, .int (nI 1)), (3, .int (nI k)), (0, .ref u0), (1, .int (nI t)), (2, .int (nI pl))] [] := by
                intro fu_b
                induction fu_b with
                | zero => intro q9 g8 s8 hq hg8 hs8 hmu; exact absurd hmu (Nat.not_lt_zero _)
                | succ fu_b ih_b =>
                  intro q9 g8 s8 hq hg8 hs8 hmu_b
                  refine g_iload (pc' := 86) C 0 dX9_chooses_84 rfl rfl ?_
                  refine g_aload_n (pc' := 87) C 3 dX9_chooses_86 rfl rfl rfl ?_
                  refine g_get (pc' := 90) C fl_RX9_94_8 0 rfl rfl dX9_chooses_87 rfl ?_
                  refine g_icmp_geN (pc' := 93) (tgt := 140) C (by first | assumption | omega) (by first | assumption | omega) dX9_chooses_90 (by decide) rfl (fun c_90_8 => ?_) (fun c_90_8 => ?_)
                  · refine g_aload_n (pc' := 141) C 3 dX9_chooses_140 rfl rfl rfl ?_
                    refine g_get (pc' := 144) C fl_RX9_45_8 0 rfl rfl dX9_chooses_141 rfl ?_
                    refine g_iload_n (pc' := 145) C 2 dX9_chooses_144 rfl rfl rfl ?_
                    refine g_ialdN (pc' := 146) C 3 (f := ss) rfl k (by first | assumption | omega) (by decide) dX9_chooses_145 rfl ?_
                    exact g_retMi C hAe rfl rfl (Nat.le_of_ble_eq_true rfl) (Nat.le_of_ble_eq_true rfl) (⟨g8, s8, (fun j hj hc => by rw [hg8, hs8, ho]; have hjl := tb_len len (by have := hL.1; omega) (ss k) hx1.2 j hj hx3 (by rw [ho] at hc; exact hc); exact mkA_t (by omega) (by rw [ho] at hc; exact hc)), (fun j hj hc => by rw [hg8, hs8]; exact mkA_n (by rw [ho] at hc; exact hc)), by rw [ho]; rfl, rfl⟩) dX9_chooses_146
                  · refine g_aload_n (pc' := 94) C 3 dX9_chooses_93 rfl rfl rfl ?_
                    refine g_get (pc' := 97) C fl_RX9_45_8 0 rfl rfl dX9_chooses_94 rfl ?_
                    refine g_iload_n (pc' := 98) C 2 dX9_chooses_97 rfl rfl rfl ?_
                    refine g_ialdN (pc' := 99) C 3 (f := ss) rfl k (by first | assumption | omega) (by decide) dX9_chooses_98 rfl ?_
                    refine g_iload (pc' := 101) C 0 dX9_chooses_99 rfl rfl ?_
                    refine g_ishr (pc' := 102) (v := nI ((ss k) / 2 ^ q9)) C dX9_chooses_101 (nI_shr _ _ (by first | assumption | omega) (by first | assumption | omega)) rfl ?_
                    refine g_iconst (pc' := 103) (v := nI 1) C dX9_chooses_102 (by decide) rfl ?_
                    refine g_iand (pc' := 104) (v := nI (((ss k) / 2 ^ q9) &&& 1)) C dX9_chooses_103 (nI_and _ _) rfl ?_
                    refine g_iconst (pc' := 105) (v := nI 1) C dX9_chooses_104 (by decide) rfl ?_
                    refine g_icmp_neN (pc' := 108) (tgt := 134) C (by have := bit_le (ss k) q9; omega) (by first | assumption | omega) dX9_chooses_105 (by decide) rfl (fun c_105_9 => ?_) (fun c_105_9 => ?_)
                    · refine g_iinc (pc' := 137) (v := nI (q9 + 1)) (lv' := [(5, .int (nI (q9 + 1))), (4, .int (nI 1)), (3, .int (nI k)), (0, .ref u0), (1, .int (nI t)), (2, .int (nI pl))]) C 0 dX9_chooses_134 rfl (iincN1 _) (by decide) rfl rfl ?_
                      refine g_goto (tgt := 84) C dX9_chooses_137 (by decide) ?_
                      exact ih_b (q9 + 1) g8 s8 (by first | assumption | omega) (mkA_f hg8 c_105_9) (mkA_f hs8 c_105_9) (by omega)
                    · refine g_aload_n (pc' := 109) C 3 dX9_chooses_108 rfl rfl rfl ?_
                      refine g_get (pc' := 112) C fl_RX9_51_8 0 rfl rfl dX9_chooses_109 rfl ?_
                      refine g_iload (pc' := 114) C 0 dX9_chooses_112 rfl rfl ?_
                      refine g_aload_n (pc' := 115) C 3 dX9_chooses_114 rfl rfl rfl ?_
                      refine g_get (pc' := 118) C fl_RX9_42_8 0 rfl rfl dX9_chooses_115 rfl ?_
                      refine g_iload_n (pc' := 119) C 2 dX9_chooses_118 rfl rfl rfl ?_
                      refine g_ialdN (pc' := 120) C 2 (f := se) rfl k (by first | assumption | omega) (by decide) dX9_chooses_119 rfl ?_
                      refine g_iastO (pc' := 121) (x := some (se k)) (ws' := [(u0, .inr (8, [.int (nI t9), .int (nI n), .ref u1, .ref u2, .int (nI ds), .ref u3, .int (nI mc), .ref u4, .ref u5, .ref u6, .ref u7, .ref u8, .int (nI len), .ref u9, .int (nI ba), .int (nI sm), .ref ua, .ref ub, .ref uc, .ref ud, .ref ue, .int (nI dy), .ref uf, .ref ug])), (u5, .inl (κ.2 0, 8, .inl (nA ck))), (ua, .inl (κ.2 0, 160, .inl (nA se))), (ub, .inl (κ.2 0, 160, .inl (nA ss))), (uc, .inl (κ.2 0, 64, .inl (nA be))), (ud, .inl (κ.2 0, 6, .inl (oA (va_up g8 q9 (some (se k)))))), (ue, .inl (κ.2 0, 6, .inl (nA s8)))]) C 5 rfl rfl q9 (by first | assumption | omega) (by decide) rfl dX9_chooses_120 rfl ?_
                      refine g_aload_n (pc' := 122) C 3 dX9_chooses_121 rfl rfl rfl ?_
                      refine g_get (pc' := 125) C fl_RX9_54_8 0 rfl rfl dX9_chooses_122 rfl ?_
                      refine g_iload (pc' := 127) C 0 dX9_chooses_125 rfl rfl ?_
                      refine g_aload_n (pc' := 128) C 3 dX9_chooses_127 rfl rfl rfl ?_
                      refine g_get (pc' := 131) C fl_RX9_45_8 0 rfl rfl dX9_chooses_128 rfl ?_
                      refine g_iload_n (pc' := 132) C 2 dX9_chooses_131 rfl rfl rfl ?_
                      refine g_ialdN (pc' := 133) C 3 (f := ss) rfl k (by first | assumption | omega) (by decide) dX9_chooses_132 rfl ?_
                      refine g_iastN (pc' := 134) (ws' := [(u0, .inr (8, [.int (nI t9), .int (nI n), .ref u1, .ref u2, .int (nI ds), .ref u3, .int (nI mc), .ref u4, .ref u5, .ref u6, .ref u7, .ref u8, .int (nI len), .ref u9, .int (nI ba), .int (nI sm), .ref ua, .ref ub, .ref uc, .ref ud, .ref ue, .int (nI dy), .ref uf, .ref ug])), (u5, .inl (κ.2 0, 8, .inl (nA ck))), (ua, .inl (κ.2 0, 160, .inl (nA se))), (ub, .inl (κ.2 0, 160, .inl (nA ss))), (uc, .inl (κ.2 0, 64, .inl (nA be))), (ud, .inl (κ.2 0, 6, .inl (oA (va_up g8 q9 (some (se k)))))), (ue, .inl (κ.2 0, 6, .inl (nA (va_up s8 q9 (ss k)))))]) C 6 rfl q9 (by first | assumption | omega) (by decide) rfl dX9_chooses_133 rfl ?_
                      refine g_iinc (pc' := 137) (v := nI (q9 + 1)) (lv' := [(5, .int (nI (q9 + 1))), (4, .int (nI 1)), (3, .int (nI k)), (0, .ref u0), (1, .int (nI t)), (2, .int (nI pl))]) C 0 dX9_chooses_134 rfl (iincN1 _) (by decide) rfl rfl ?_
                      refine g_goto (tgt := 84) C dX9_chooses_137 (by decide) ?_
                      exact ih_b (q9 + 1) (va_up g8 q9 (some (se k))) (va_up s8 q9 (ss k)) (by first | assumption | omega) (mkA_u hg8 c_105_9) (mkA_u hs8 c_105_9) (by omega)
              exact lp_b 7 0 gl st9 (Nat.zero_le _) mkA_0.symm mkA_0.symm (by omega)
  exact lp_a (sm + 1) 0 (Nat.zero_le _) lt_0 (by omega)
