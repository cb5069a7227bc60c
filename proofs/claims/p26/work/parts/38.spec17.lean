/-! ===== a state as it may be, and each call's next state ===== -/
def DW (ds : Nat) (dr : Nat → Option Nat) : Prop := ds ≤ 4 ∧ (∀ i h, dr i = some h → h < 100) ∧ (0 < ds → dr 0 ≠ none)
def TW (mc : Nat) (th : Nat → Bool) (rc : Nat → Option Nat) (ck pm : Nat → Nat) (ep : Nat → Nat → Option Nat) : Prop := mc ≤ 8 ∧ (∀ e, th e = true → e < mc) ∧ EW mc rc ck pm ep ∧ EX mc rc ep ∧ ∀ e i h, ep e i = some h → h < 100
def IW (iv : Nat → Nat → Nat) : Prop := ∀ r e, ip (iv r e)
theorem ca_0 {p0 p1 : Int32} {n : Nat} (h : c_addRule p0 p1 n = 0) : inZ 0 2 p0 = true ∧ inZ 1 50 p1 = true ∧ n < 6 := by
  unfold c_addRule at h
  split at h
  · rename_i q
    split at h
    · omega
    · exact ⟨q.1, q.2, by omega⟩
  · omega
theorem RW_add {n : Nat} {fk fs : Nat → Nat} {p0 p1 : Int32} (H : RW n fk fs) (h : c_addRule p0 p1 n = 0) : RW (n + 1) (va_up fk n (n9 p0)) (va_up fs n (n9 p1)) := by
  obtain ⟨h1, h2, h3⟩ := ca_0 h
  obtain ⟨a, -, ha, rfl⟩ := inZ_w h1 (by decide)
  obtain ⟨b, -, hb, rfl⟩ := inZ_w h2 (by decide)
  obtain ⟨k1, k2, k3⟩ := H
  rw [n9_nI (by omega), n9_nI (by omega)]
  refine ⟨by omega, fun i => ?_, fun i => ?_⟩
  · unfold va_up; split
    · omega
    · exact k2 i
  · unfold va_up; split
    · omega
    · exact k3 i
theorem cs_0 {p0 : Int32} {len : Nat} (h : c_say p0 len = 0) : inZ 0 99 p0 = true ∧ len < 6 := by
  unfold c_say at h
  split at h
  · omega
  · rename_i q
    split at h
    · omega
    · exact ⟨by simpa using q, by omega⟩
theorem SW_say {len : Nat} {fw : Nat → Nat} {p0 : Int32} (H : SW len fw) (h : c_say p0 len = 0) : SW (len + 1) (va_up fw len (n9 p0)) := by
  obtain ⟨h1, h2⟩ := cs_0 h
  obtain ⟨a, -, ha, rfl⟩ := inZ_w h1 (by decide)
  rw [n9_nI (by omega)]
  refine ⟨by omega, fun i => ?_⟩
  unfold va_up; split
  · omega
  · exact H.2 i
theorem SW_0 {len : Nat} {fw : Nat → Nat} (H : SW len fw) : SW 0 fw := ⟨by omega, H.2⟩
theorem cp_0 {p0 : Int32} {ds : Nat} (h : c_part p0 ds = 0) : (p0 = -1 ∨ inZ 0 99 p0 = true) ∧ ds < 4 ∧ ¬ (p0 = -1 ∧ ds = 0) := by
  unfold c_part at h
  split at h
  · omega
  · rename_i q
    split at h
    · omega
    · rename_i q2
      refine ⟨?_, by omega, fun z => q2 (Or.inr z)⟩
      by_cases e : p0 = -1
      · exact Or.inl e
      · refine Or.inr ?_
        cases e2 : inZ 0 99 p0 with
        | true => rfl
        | false => exact absurd ⟨e, e2⟩ q
theorem oP_lt {p0 : Int32} {h : Nat} (hp : p0 = -1 ∨ inZ 0 99 p0 = true) (e : oP p0 = some h) : h < 100 := by
  rcases hp with rfl | hp
  · rw [oP_m1] at e; cases e
  · obtain ⟨a, -, ha, rfl⟩ := inZ_w hp (by decide)
    rw [oP_nI (by omega)] at e
    cases e
    omega
theorem DW_part {ds : Nat} {dr : Nat → Option Nat} {p0 : Int32} (H : DW ds dr) (h : c_part p0 ds = 0) : DW (ds + 1) (va_up dr ds (oP p0)) := by
  obtain ⟨h1, h2, h3⟩ := cp_0 h
  obtain ⟨k1, k2, k3⟩ := H
  refine ⟨by omega, fun i v hv => ?_, fun _ => ?_⟩
  · unfold va_up at hv
    split at hv
    · exact oP_lt h1 hv
    · exact k2 i v hv
  · unfold va_up
    split
    · rename_i e
      rcases h1 with rfl | h1
      · exact absurd ⟨rfl, e.symm⟩ h3
      · obtain ⟨a, -, ha, rfl⟩ := inZ_w h1 (by decide)
        rw [oP_nI (by omega)]
        exact fun z => by cases z
    · exact k3 (by omega)
theorem DW_0 {ds : Nat} {dr : Nat → Option Nat} (H : DW ds dr) : DW 0 dr := ⟨by omega, H.2.1, fun z => absurd z (Nat.lt_irrefl 0)⟩
theorem cph_0 {p0 : Int32} {ds : Nat} {dr : Nat → Option Nat} {mc : Nat} (h : c_addPhrase p0 ds dr mc = 0) : inZ 1 20 p0 = true ∧ 0 < ds ∧ dr (ds - 1) ≠ none ∧ mc < 8 := by
  unfold c_addPhrase at h
  split at h
  · omega
  · rename_i q
    split at h
    · omega
    · rename_i q2
      exact ⟨by simpa using q, Nat.pos_of_ne_zero (fun z => q2 (Or.inl z)), fun z => q2 (Or.inr (Or.inl z)), Nat.lt_of_not_le (fun z => q2 (Or.inr (Or.inr z)))⟩
/-- the parts of the entries, with the draft's put for the next one -/
def epD (ep : Nat → Nat → Option Nat) (dr : Nat → Option Nat) (mc ds : Nat) : Nat → Nat → Option Nat := va_up ep mc (fun j => if j < ds then dr j else ep mc j)
theorem th_next {th : Nat → Bool} {mc : Nat} (h : ∀ e, th e = true → e < mc) : ∀ e, va_up th mc true e = true → e < mc + 1 := fun e he => by
  unfold va_up at he
  split at he
  · omega
  · have := h e he; omega
theorem TW_ph {mc ds : Nat} {th : Nat → Bool} {rc : Nat → Option Nat} {ck pm : Nat → Nat} {ep : Nat → Nat → Option Nat} {dr : Nat → Option Nat} {p0 : Int32} (H : TW mc th rc ck pm ep) (D : DW ds dr) (h : c_addPhrase p0 ds dr mc = 0) : TW (mc + 1) (va_up th mc true) (va_up rc mc none) (va_up ck mc (n9 p0)) (va_up pm mc ds) (epD ep dr mc ds) := by
  obtain ⟨h1, h2, h3, h4⟩ := cph_0 h
  obtain ⟨a, -, ha, rfl⟩ := inZ_w h1 (by decide)
  obtain ⟨k1, k2, k3, k4, k5⟩ := H
  obtain ⟨d1, d2, d3⟩ := D
  rw [n9_nI (by omega)]
  have hep : ∀ e i v, epD ep dr mc ds e i = some v → v < 100 := by
    intro e i v hv
    unfold epD va_up at hv
    split at hv
    · dsimp only at hv
      split at hv
      · exact d2 i v hv
      · exact k5 mc i v hv
    · exact k5 e i v hv
  refine ⟨by omega, th_next k2, fun e he => ?_, fun e he r hr => ?_, hep⟩
  · by_cases q : e = mc
    · subst q
      have e1 : va_up rc e none e = none := va_up_self _ _ _
      rw [e1, va_up_self, va_up_self]
      have c1 : epD ep dr e ds e = fun j => if j < ds then dr j else ep e j := va_up_self _ _ _
      refine ⟨by omega, ⟨by omega, d1, hep e⟩, ?_, ?_⟩
      · rw [c1]
        show (if 0 < ds then dr 0 else ep e 0) ≠ none
        rw [if_pos h2]; exact d3 h2
      · rw [c1]
        show (if ds - 1 < ds then dr (ds - 1) else ep e (ds - 1)) ≠ none
        rw [if_pos (by omega)]; exact h3
    · have e1 : va_up rc mc none e = rc e := va_up_ne _ _ q
      have e2 : epD ep dr mc ds e = ep e := va_up_ne _ _ q
      rw [e1, va_up_ne _ _ q, va_up_ne _ _ q, e2]
      exact k3 e (by omega)
  · by_cases q : e = mc
    · subst q
      rw [va_up_self] at hr; cases hr
    · rw [va_up_ne _ _ q] at hr
      have e2 : epD ep dr mc ds e = ep e := va_up_ne _ _ q
      rw [e2]
      exact k4 e (by omega) r hr
theorem csp_0 {p0 p1 p2 p3 : Int32} {mc : Nat} (h : c_addSplit p0 p1 p2 p3 mc = 0) : inZ 0 99 p0 = true ∧ inZ 0 99 p1 = true ∧ inZ 0 4 p2 = true ∧ inZ 1 20 p3 = true ∧ mc < 8 := by
  unfold c_addSplit at h
  split at h
  · omega
  · rename_i q
    split at h
    · omega
    · rename_i q2
      split at h
      · omega
      · exact ⟨by cases e : inZ 0 99 p0 with | true => rfl | false => exact absurd (Or.inl e) q, by cases e : inZ 0 99 p1 with | true => rfl | false => exact absurd (Or.inr e) q, by cases e : inZ 0 4 p2 with | true => rfl | false => exact absurd (Or.inl e) q2, by cases e : inZ 1 20 p3 with | true => rfl | false => exact absurd (Or.inr e) q2, by omega⟩
def epS1 (ep : Nat → Nat → Option Nat) (mc a : Nat) : Nat → Nat → Option Nat := va_up ep mc (va_up (ep mc) 0 (some a))
def epS (ep : Nat → Nat → Option Nat) (mc a b : Nat) : Nat → Nat → Option Nat := va_up (epS1 ep mc a) mc (va_up (epS1 ep mc a mc) 1 (some b))
theorem epS_0 {ep : Nat → Nat → Option Nat} {mc a b : Nat} : epS ep mc a b mc 0 = some a := by simp [epS, epS1, va_up]
theorem epS_1 {ep : Nat → Nat → Option Nat} {mc a b : Nat} : epS ep mc a b mc 1 = some b := by simp [epS, epS1, va_up]
theorem epS_n {ep : Nat → Nat → Option Nat} {mc a b e : Nat} (h : e ≠ mc) : epS ep mc a b e = ep e := by simp [epS, epS1, va_up, h]
theorem epS_lt {ep : Nat → Nat → Option Nat} {mc a b e i v : Nat} (ha : a < 100) (hb : b < 100) (H : ∀ e i h, ep e i = some h → h < 100) (h : epS ep mc a b e i = some v) : v < 100 := by
  by_cases q : e = mc
  · subst q
    simp only [epS, epS1, va_up, if_true] at h
    split at h
    · cases h; exact hb
    · split at h
      · cases h; exact ha
      · exact H e i v h
  · rw [epS_n q] at h
    exact H e i v h
theorem TW_sp {mc : Nat} {th : Nat → Bool} {rc : Nat → Option Nat} {ck pm : Nat → Nat} {ep : Nat → Nat → Option Nat} {p0 p1 p2 p3 : Int32} (H : TW mc th rc ck pm ep) (h : c_addSplit p0 p1 p2 p3 mc = 0) : TW (mc + 1) (va_up th mc true) (va_up rc mc (some (n9 p2))) (va_up ck mc (n9 p3)) pm (epS ep mc (n9 p0) (n9 p1)) := by
  obtain ⟨h1, h2, h3, h4, h5⟩ := csp_0 h
  obtain ⟨a, -, ha, rfl⟩ := inZ_w h1 (by decide)
  obtain ⟨b, -, hb, rfl⟩ := inZ_w h2 (by decide)
  obtain ⟨r, -, hr, rfl⟩ := inZ_w h3 (by decide)
  obtain ⟨k, -, hk, rfl⟩ := inZ_w h4 (by decide)
  obtain ⟨k1, k2, k3, k4, k5⟩ := H
  rw [n9_nI (by omega), n9_nI (by omega), n9_nI (by omega), n9_nI (by omega)]
  refine ⟨by omega, th_next k2, fun e he => ?_, fun e he r2 hr2 => ?_, fun e i v hv => epS_lt (by omega) (by omega) k5 hv⟩
  · by_cases q : e = mc
    · subst q
      have e1 : va_up rc e (some r) e = some r := va_up_self _ _ _
      rw [e1, va_up_self]
      refine ⟨by omega, ?_, ?_, by omega⟩
      · rw [epS_0]; show a < 100; omega
      · rw [epS_1]; show b < 100; omega
    · have e1 : va_up rc mc (some r) e = rc e := va_up_ne _ _ q
      rw [e1, va_up_ne _ _ q, epS_n q]
      exact k3 e (by omega)
  · by_cases q : e = mc
    · subst q
      rw [epS_0, epS_1]
      exact ⟨(fun z => by cases z), (fun z => by cases z)⟩
    · rw [va_up_ne _ _ q] at hr2
      rw [epS_n q]
      exact k4 e (by omega) r2 hr2
theorem TW_off {mc : Nat} {th : Nat → Bool} {rc : Nat → Option Nat} {ck pm : Nat → Nat} {ep : Nat → Nat → Option Nat} (H : TW mc th rc ck pm ep) (a : Nat) : TW mc (va_up th a false) rc ck pm ep := by
  obtain ⟨k1, k2, k3⟩ := H
  refine ⟨k1, fun e he => ?_, k3⟩
  unfold va_up at he
  split at he
  · cases he
  · exact k2 e he
theorem cb_0 {p0 : Int32} (h : c_setBare p0 = 0) : n9 p0 ≤ 50 := by
  unfold c_setBare at h
  split at h
  · rename_i q
    obtain ⟨a, -, ha, rfl⟩ := inZ_w q (by decide)
    rw [n9_nI (by omega)]; omega
  · omega
theorem cpa_0 {p0 : Int32} (h : c_pass p0 = 0) : n9 p0 ≤ 100 := by
  unfold c_pass at h
  split at h
  · rename_i q
    obtain ⟨a, -, ha, rfl⟩ := inZ_w q (by decide)
    rw [n9_nI (by omega)]; omega
  · omega
theorem cto_0 {p0 : Int32} {th : Nat → Bool} (h : c_takeOut p0 th = 0) : n9 p0 < 8 := by
  unfold c_takeOut at h
  split at h
  · rename_i q; exact isE_lt q
  · omega
theorem cle_0 {p0 p1 : Int32} {th : Nat → Bool} {iv : Nat → Nat → Nat} (h : c_learn p0 p1 th iv = 0) : n9 p1 < 8 ∧ n9 p0 < 3 := by
  unfold c_learn at h
  split at h
  · omega
  · rename_i q0
    split at h
    · omega
    · rename_i q
      obtain ⟨a, -, ha, rfl⟩ := inZ_w (show inZ 0 2 p0 = true by simpa using q0) (by decide)
      exact ⟨isE_lt (by simpa using q), by rw [n9_nI (by omega)]; omega⟩
theorem crv_0 {p0 p1 : Int32} {th : Nat → Bool} {iv dv : Nat → Nat → Nat} {dy : Nat} (h : c_review p0 p1 th iv dv dy = 0) : n9 p1 < 8 ∧ n9 p0 < 3 ∧ 0 < iv (n9 p0) (n9 p1) := by
  unfold c_review at h
  split at h
  · omega
  · rename_i q0
    split at h
    · omega
    · rename_i q
      split at h
      · rename_i q2
        obtain ⟨a, -, ha, rfl⟩ := inZ_w (show inZ 0 2 p0 = true by simpa using q0) (by decide)
        exact ⟨isE_lt (by simpa using q), by rw [n9_nI (by omega)]; omega, q2.1⟩
      · omega
theorem ckn_0 {p0 p1 : Int32} {th : Nat → Bool} (h : c_knows p0 p1 th = 0) : n9 p1 < 8 := isE_lt (c_knows_0 (Nat.le_of_eq h)).2
theorem rvI_le {g : Bool} {v : Nat} : rvI g v ≤ 64 := by unfold rvI; split <;> omega
theorem IW_put {iv : Nat → Nat → Nat} (H : IW iv) (r e : Nat) {v : Nat} (hv : ip v) : IW (va_up iv r (va_up (iv r) e v)) := by
  intro r' e'
  unfold va_up
  split
  · dsimp only
    split
    · exact hv
    · rename_i e1 _; rw [← e1]; exact H r' e'
  · exact H r' e'
theorem ip_0 : ip 0 := Or.inl rfl
theorem ip_1 : ip 1 := Or.inr (Or.inl rfl)
theorem IW_drp {iv : Nat → Nat → Nat} (H : IW iv) (e : Nat) : ∀ k, IW (drp iv e k)
  | 0 => H
  | k + 1 => IW_put (IW_drp H e k) k e ip_0
theorem KW_drp {iv dv : Nat → Nat → Nat} (H : KW iv dv) (e : Nat) : ∀ k, KW (drp iv e k) dv
  | 0 => H
  | k + 1 => KW_off (KW_drp H e k)
/-! the reference's answers, by the state's words -/
theorem v_take {iv : Nat → Nat → Nat} {e : Nat} (h : e < 8) : cntB (fun r => decide (0 < fl8 iv (8 * r + e))) 3 = cntB (fun r => decide (0 < iv r e)) 3 := cntB_congr (fun j _ => by rw [fl8_at h])
theorem v_learn {iv : Nat → Nat → Nat} {r e : Nat} (h : e < 8) : ctC (fun j => va_up (fl8 iv) (8 * r + e) 1 (8 * r + j)) 8 = ctC (va_up (iv r) e 1) 8 := by
  rw [fl8_up h]
  exact ctC_congr (fun j hj => by rw [fl8_at hj, va_up_self])
theorem v_due {iv dv : Nat → Nat → Nat} {r dy : Nat} : cntB (fun e => decide (0 < fl8 iv (8 * r + e)) && decide (fl8 dv (8 * r + e) ≤ dy)) 8 = cntB (fun e => decide (0 < iv r e) && decide (dv r e ≤ dy)) 8 := cntB_congr (fun j hj => by rw [fl8_at hj, fl8_at hj])
theorem v_next {iv dv : Nat → Nat → Nat} {r : Nat} : fsC (fun e => fl8 iv (8 * r + e)) (fun e => fl8 dv (8 * r + e)) 8 = fsC (iv r) (dv r) 8 := fsC_congr (fun j hj => ⟨fl8_at hj, fl8_at hj⟩)
theorem fl8_le {iv : Nat → Nat → Nat} {b : Nat} (h : ∀ r e, iv r e ≤ b) (j : Nat) : fl8 iv j ≤ b := h _ _
theorem v_spl {ep : Nat → Nat → Option Nat} {mc a b : Nat} : va_up (va_up (fl4 ep) (4 * mc) (some a)) (4 * mc + 1) (some b) = fl4 (epS ep mc a b) := by
  have e1 : va_up (fl4 ep) (4 * mc) (some a) = fl4 (epS1 ep mc a) := fl4_up (r := mc) (e := 0) (by decide)
  rw [e1, fl4_up (by decide)]
  rfl
theorem v_phr {ep : Nat → Nat → Option Nat} {dr : Nat → Option Nat} {mc ds : Nat} (h : ds ≤ 4) : cpf (fl4 ep) dr mc ds = fl4 (epD ep dr mc ds) := cpf_fl ds h
/-! the class's answers, by the state's words -/
theorem inG_more6 {gl : Nat → Option Nat} {e len : Nat} (hl : len ≤ 6) (h : ∀ j, len ≤ j → j < 6 → gl j = none) : inG gl e 6 = inG gl e len := by
  have key : ∀ d, len + d ≤ 6 → inG gl e (len + d) = inG gl e len := by
    intro d
    induction d with
    | zero => exact fun _ => rfl
    | succ d ih =>
      intro hd
      rw [← Nat.add_assoc, inG, h (len + d) (by omega) (by omega), ih (by omega)]
      simp
  have := key (6 - len) (by omega)
  rw [show len + (6 - len) = 6 by omega] at this
  exact this
theorem inG_no {gl : Nat → Option Nat} {e : Nat} : ∀ {k : Nat}, (∀ j, j < k → gl j ≠ some e) → inG gl e k = false
  | 0, _ => rfl
  | k + 1, h => by rw [inG, inG_no (fun j hj => h j (by omega)), decide_eq_false (h k (by omega))]; rfl
section VC
variable {n : Nat} {fk fs : Nat → Nat} {len : Nat} {fw : Nat → Nat} {rc : Nat → Option Nat} {ck pm : Nat → Nat} {ep : Nat → Nat → Option Nat} {th : Nat → Bool} {mc ba : Nat}
theorem sm8 (T : TW mc th rc ck pm ep) : smN n fk fs len fw rc ck pm ep th 8 = smN n fk fs len fw rc ck pm ep th mc := smN_more (fun j hj => by
  cases q : th j with
  | false => rfl
  | true => exact absurd (T.2.1 j q) (by omega)) T.1
theorem fz8 (S : SW len fw) (T : TW mc th rc ck pm ep) : ∀ p, p < 6 → fz p (stN n fk fs len fw rc ck pm ep th 8) = fz p (smN n fk fs len fw rc ck pm ep th mc) := fun p hp => by
  rw [← sm8 T]
  exact stN_fz S.1 T.2.2.1 T.2.1 hp 8
theorem v_len (S : SW len fw) (T : TW mc th rc ck pm ep) : (stN n fk fs len fw rc ck pm ep th 8).length = (smN n fk fs len fw rc ck pm ep th mc).length := by
  rw [← sm8 T, smN_len S T.2.2.1 T.2.1]
theorem v_LW (S : SW len fw) (T : TW mc th rc ck pm ep) : LW len (stN n fk fs len fw rc ck pm ep th 8) := by
  refine ⟨S.1, fun x hx => ?_⟩
  have h64 := stN_L64 S T.2.2.1 T.2.1 8 x hx
  have ht := tz6_lt _ h64.2 h64.1
  have h2 : x ∈ fz (tz6 x.2.1) (stN n fk fs len fw rc ck pm ep th 8) := List.mem_filter.mpr ⟨hx, by simp⟩
  rw [fz8 S T _ ht] at h2
  exact (smN_LW S.1 mc).2 x (List.mem_filter.mp h2).1
theorem v_op (S : SW len fw) (T : TW mc th rc ck pm ep) {cnt : Nat} {fn fp fr : Nat → Nat} (h : stOK (stN n fk fs len fw rc ck pm ep th 8) cnt fn fp fr) : optR fp fr cnt len ba 6 0 = opL (smN n fk fs len fw rc ck pm ep th mc) len ba 6 0 := by
  rw [op_class h, op_fz (fz8 S T) 6 (Nat.le_refl 6)]
theorem v_all (S : SW len fw) (T : TW mc th rc ck pm ep) : zI (((ba * len : Nat) : Int) + dm ba (stN n fk fs len fw rc ck pm ep th 8) 0) = nI (opL (smN n fk fs len fw rc ck pm ep th mc) len ba 6 0) := by
  rw [all_same (v_LW S T), op_fz (fz8 S T) 6 (Nat.le_refl 6)]
  rfl
theorem v_pk (S : SW len fw) (T : TW mc th rc ck pm ep) {cnt : Nat} {fn fp fr : Nat → Nat} {M : Nat → Nat → Nat} {pk : Nat → Option Nat} (h : stOK (stN n fk fs len fw rc ck pm ep th 8) cnt fn fp fr) (hM : ∀ k, k ≤ 6 → ∀ u, u < 64 → M (6 - k) u = optR fp fr cnt len ba k u) (hp : ∀ j, j < 6 → pk j = chP M fp fr cnt 6 j) {j : Nat} (hj : j < 6) : (pk j).map (fun q => (fn q, fp q, fr q)) = cP (smN n fk fs len fw rc ck pm ep th mc) len ba 6 j := by
  rw [hp j hj, (ch_class h (fun x hx => (v_LW S T).lt hx) hM 6 (Nat.le_refl 6)).2 j hj, (c_fz (fz8 S T) 6 (Nat.le_refl 6)).2 j]
theorem v_gl (S : SW len fw) (T : TW mc th rc ck pm ep) {cnt : Nat} {fn fp fr : Nat → Nat} {M : Nat → Nat → Nat} {pk : Nat → Option Nat} (h : stOK (stN n fk fs len fw rc ck pm ep th 8) cnt fn fp fr) (hM : ∀ k, k ≤ 6 → ∀ u, u < 64 → M (6 - k) u = optR fp fr cnt len ba k u) (hp : ∀ j, j < 6 → pk j = chP M fp fr cnt 6 j) {j : Nat} (hj : j < 6) : (pk j).map fn = (cP (smN n fk fs len fw rc ck pm ep th mc) len ba 6 j).map (fun x => x.1) ∧ ((pk j).map fp).getD 0 = ((cP (smN n fk fs len fw rc ck pm ep th mc) len ba 6 j).map (fun x => x.2.1)).getD 0 := by
  rw [← v_pk S T h hM hp hj]
  cases pk j <;> exact ⟨rfl, rfl⟩
theorem v_new (S : SW len fw) (T : TW mc th rc ck pm ep) {cnt : Nat} {fn fp fr : Nat → Nat} {M : Nat → Nat → Nat} {pk : Nat → Option Nat} {f : Nat → Nat} (h : stOK (stN n fk fs len fw rc ck pm ep th 8) cnt fn fp fr) (hM : ∀ k, k ≤ 6 → ∀ u, u < 64 → M (6 - k) u = optR fp fr cnt len ba k u) (hp : ∀ j, j < 6 → pk j = chP M fp fr cnt 6 j) : cntB (fun e => inC fn pk e && decide (f e = 0)) 8 = cntB (fun e => inG (fun j => (cP (smN n fk fs len fw rc ck pm ep th mc) len ba 6 j).map (fun x => x.1)) e len && decide (f e = 0)) mc := by
  have hL := smN_LW (n := n) (fk := fk) (fs := fs) (fw := fw) (rc := rc) (ck := ck) (pm := pm) (ep := ep) (th := th) S.1 mc
  have hg : ∀ e, inC fn pk e = inG (fun j => (cP (smN n fk fs len fw rc ck pm ep th mc) len ba 6 j).map (fun x => x.1)) e len := by
    intro e
    rw [inC_G (gl := fun j => (cP (smN n fk fs len fw rc ck pm ep th mc) len ba 6 j).map (fun x => x.1)) (fun j hj => ((v_gl S T h hM hp hj).1).symm)]
    refine inG_more6 S.1 (fun j h1 h2 => ?_)
    cases q : cP (smN n fk fs len fw rc ck pm ep th mc) len ba 6 j with
    | none => rfl
    | some x =>
      obtain ⟨a, b⟩ := cP_in (fun x hx => hL.lt hx) q
      have := tb_len len (by have := S.1; omega) x.2.1 (hL.lt a).2 j h2 (hL.2 x a).2 b
      omega
  have e8 : ∀ e, mc ≤ e → (inG (fun j => (cP (smN n fk fs len fw rc ck pm ep th mc) len ba 6 j).map (fun x => x.1)) e len && decide (f e = 0)) = false := by
    intro e he
    rw [inG_no (fun j _ => ?_)]
    · rfl
    · intro q
      obtain ⟨x, hx, e2⟩ := Option.map_eq_some_iff.mp q
      obtain ⟨a, -⟩ := cP_in (fun x hx => hL.lt hx) hx
      have := (smN_ok a).1
      omega
  rw [← cntB_more e8 T.1]
  exact cntB_congr (fun j _ => by rw [hg])
end VC
