/-! ===== what the reference's loops need ===== -/
theorem tz_tb : ∀ s, s < 64 → (0 < s → tb s (tz6 s) = true ∧ ∀ j, j < tz6 s → tb s j = false) := by decide +kernel
theorem nx_no : ∀ l, l < 7 → ∀ s, s < 64 → ((0 < s ∧ s < 2 ^ l ∧ ∀ j, j < 6 → (tz6 s < j ∧ j < l → tb s j = false)) → ¬ nx6 s < l) := by decide +kernel
theorem nx_is : ∀ g, g < 6 → ∀ s, s < 64 → ((0 < s ∧ tz6 s < g ∧ tb s g = true ∧ ∀ j, j < 6 → (tz6 s < j ∧ j < g → tb s j = false)) → nx6 s = g) := by decide +kernel
theorem oI_og {o : Option Nat} (h : o ≠ none) : oI o = nI (og o) := by
  cases o with
  | none => exact absurd rfl h
  | some x => rfl
theorem stS_sp {n : Nat} {fk fs : Nat → Nat} {len : Nat} {fw : Nat → Nat} {r : Option Nat} {m : Nat} {pa : Nat → Option Nat} {s q f g : Nat} (hr : r = some q) (hf : f = tz6 s) (hg : nx6 s = g) : stS n fk fs len fw r m pa s = ((decide (g < len) && (decide (s = 2 ^ f ||| 2 ^ g) && decide (g - f - 1 ≤ q))) && (fm n fk fs (fw f) (og (pa 0)) && fm n fk fs (fw g) (og (pa 1)))) := by
  subst hr; subst hf; subst hg; rfl
theorem stS_no {n : Nat} {fk fs : Nat → Nat} {len : Nat} {fw : Nat → Nat} {r : Option Nat} {m : Nat} {pa : Nat → Option Nat} {s q : Nat} (hr : r = some q) (hg : ¬ nx6 s < len) : stS n fk fs len fw r m pa s = false := by
  subst hr
  unfold stS
  simp [hg]
theorem stS_ph {n : Nat} {fk fs : Nat → Nat} {len : Nat} {fw : Nat → Nat} {r : Option Nat} {m : Nat} {pa : Nat → Option Nat} {s f : Nat} (hr : r = none) (hf : f = tz6 s) : stS n fk fs len fw r m pa s = (decide (f + m ≤ len) && (phF n fk fs fw pa f m && decide (phSet pa f m = s))) := by
  subst hr; subst hf; rfl
theorem phF_more {n : Nat} {fk fs fw : Nat → Nat} {pa : Nat → Option Nat} {f k : Nat} (h : phF n fk fs fw pa f k = false) : ∀ d, phF n fk fs fw pa f (k + d) = false
  | 0 => h
  | d + 1 => by rw [← Nat.add_assoc, phF, phF_more h d]; rfl
theorem phF_more2 {n : Nat} {fk fs fw : Nat → Nat} {pa : Nat → Option Nat} {f k m : Nat} (h : phF n fk fs fw pa f k = false) (hk : k ≤ m) : phF n fk fs fw pa f m = false := by
  have e := phF_more h (m - k)
  rw [show k + (m - k) = m by omega] at e
  exact e
theorem phSet_lt6 {pa : Nat → Option Nat} {f : Nat} : ∀ k, f + k ≤ 6 → phSet pa f k < 64
  | 0, _ => by show 0 < 64; decide
  | k + 1, h => by
    have h1 := phSet_lt6 (pa := pa) (f := f) k (by omega)
    rw [phSet]
    split
    · exact h1
    · exact or64 h1 (pow_lt64 (by omega))
/-- both parts of a split entry are there -/
def EX (mc : Nat) (rc : Nat → Option Nat) (ep : Nat → Nat → Option Nat) : Prop := ∀ e, e < mc → ∀ r, rc e = some r → ep e 0 ≠ none ∧ ep e 1 ≠ none
theorem ck_up {gn ck : Nat → Nat} {ct e : Nat} : (fun i => ck (va_up gn ct e i)) = va_up (fun i => ck (gn i)) ct (ck e) := by
  funext i
  unfold va_up
  split <;> rfl
theorem stOM_put {L : SL} {ct : Nat} {gn gp ck : Nat → Nat} (h : stOK L ct gn gp (fun i => ck (gn i))) (e s : Nat) : stOK (L ++ [(e, s, ck e)]) (ct + 1) (va_up gn ct e) (va_up gp ct s) (fun i => ck (va_up gn ct e i)) := by
  rw [ck_up]
  exact stOK_put h e s (ck e)
section SM
variable {n : Nat} {fk fs : Nat → Nat} {len : Nat} {fw : Nat → Nat} {rc : Nat → Option Nat} {ck pm : Nat → Nat} {ep : Nat → Nat → Option Nat} {th : Nat → Bool} {mc : Nat}
theorem smN_LW (hl : len ≤ 6) (k : Nat) : LW len (smN n fk fs len fw rc ck pm ep th k) := ⟨hl, fun x hx => ⟨(smN_ok hx).2.2.1, (smN_ok hx).2.2.2.1⟩⟩
theorem stN_L64 (hS : SW len fw) (hE : EW mc rc ck pm ep) (hth : ∀ e, th e = true → e < mc) (k : Nat) : L64 (stN n fk fs len fw rc ck pm ep th k) := fun x hx => ⟨(stN_ok hS hE hth k x hx).2.1, (stN_ok hS hE hth k x hx).2.2.1⟩
theorem smN_len (hS : SW len fw) (hE : EW mc rc ck pm ep) (hth : ∀ e, th e = true → e < mc) (k : Nat) : (smN n fk fs len fw rc ck pm ep th k).length = (stN n fk fs len fw rc ck pm ep th k).length :=
  (len_fz (stN_L64 hS hE hth k) (fun x hx => (smN_LW hS.1 k).lt hx) (fun p hp => stN_fz hS.1 hE hth hp k)).symm
theorem smL_len (hS : SW len fw) (hE : EW mc rc ck pm ep) {e : Nat} (he : e < mc) : (smL n fk fs len fw rc ck pm ep e).length ≤ 15 := by
  rw [len_fz (b := stE n fk fs len fw rc ck pm ep e) (fun x hx => ?_) (fun x hx => ⟨(stE_ok hS hE he x hx).2.1, (stE_ok hS hE he x hx).2.2.1⟩) (fun p hp => (st_fz hS.1 hE he hp).symm)]
  · exact stE_len hS.1
  · obtain ⟨-, b, c, -⟩ := smL_ok hx
    exact ⟨b, Nat.lt_of_lt_of_le c (Nat.pow_le_pow_right (by decide) hS.1)⟩
theorem smE_le {P : Nat → Bool} {a : Nat} : ∀ {b : Nat}, a ≤ b → (smE P a).length ≤ (smE P b).length
  | 0, h => by rw [Nat.le_zero.mp h]; exact Nat.le_refl _
  | b + 1, h => by
    rcases Nat.lt_or_ge a (b + 1) with q | q
    · refine Nat.le_trans (smE_le (by omega : a ≤ b)) ?_
      rw [smE_s, List.length_append]
      omega
    · rw [show a = b + 1 by omega]; exact Nat.le_refl _
/-- the standings of the first entries, and of the next one by its sets under s -/
def smA (n : Nat) (fk fs : Nat → Nat) (len : Nat) (fw : Nat → Nat) (rc : Nat → Option Nat) (ck pm : Nat → Nat) (ep : Nat → Nat → Option Nat) (th : Nat → Bool) (e s : Nat) : SL := smN n fk fs len fw rc ck pm ep th e ++ (if th e = true then (smE (stS n fk fs len fw (rc e) (pm e) (ep e)) s).map (fun s => (e, s, ck e)) else [])
theorem smA_1 {e : Nat} : smA n fk fs len fw rc ck pm ep th e 1 = smN n fk fs len fw rc ck pm ep th e := by
  unfold smA
  have : smE (stS n fk fs len fw (rc e) (pm e) (ep e)) 1 = [] := by rw [smE_s]; rfl
  rw [this]
  split <;> simp
theorem smA_n {e s : Nat} (h : th e = false) : smA n fk fs len fw rc ck pm ep th e s = smN n fk fs len fw rc ck pm ep th (e + 1) := by
  unfold smA
  rw [smN, if_neg (by rw [h]; decide), if_neg (by rw [h]; decide)]
theorem smA_e {e : Nat} : smA n fk fs len fw rc ck pm ep th e (2 ^ len) = smN n fk fs len fw rc ck pm ep th (e + 1) := rfl
theorem smA_t {e s : Nat} (h : th e = true) (h0 : 0 < s) (hP : stS n fk fs len fw (rc e) (pm e) (ep e) s = true) : smA n fk fs len fw rc ck pm ep th e (s + 1) = smA n fk fs len fw rc ck pm ep th e s ++ [(e, s, ck e)] := by
  unfold smA
  rw [if_pos h, if_pos h, smE_s, if_pos (by rw [hP, decide_eq_true h0]; rfl), List.map_append, List.append_assoc]
  rfl
theorem smA_f {e s : Nat} (hP : stS n fk fs len fw (rc e) (pm e) (ep e) s = false) : smA n fk fs len fw rc ck pm ep th e (s + 1) = smA n fk fs len fw rc ck pm ep th e s := by
  unfold smA
  rw [smE_s, hP, Bool.and_false, if_neg (show ¬ (false = true) by decide), List.append_nil]
theorem smA_len (hS : SW len fw) (hE : EW mc rc ck pm ep) (hth : ∀ e, th e = true → e < mc) (hm : mc ≤ 8) {e s : Nat} (he : e < mc) (hs : s ≤ 2 ^ len) : (smA n fk fs len fw rc ck pm ep th e s).length ≤ 120 := by
  unfold smA
  rw [List.length_append, smN_len hS hE hth]
  have h1 := stN_len (n := n) (fk := fk) (fs := fs) (fw := fw) (rc := rc) (ck := ck) (pm := pm) (ep := ep) (th := th) hS.1 e
  split
  · have h2 := smE_le (P := stS n fk fs len fw (rc e) (pm e) (ep e)) hs
    have h3 := smL_len (n := n) (fk := fk) (fs := fs) (fw := fw) hS hE he
    unfold smL at h3
    rw [List.length_map] at h3 ⊢
    omega
  · rw [List.length_nil]; omega
end SM
theorem bM_0 {L : SL} {len ba : Nat} : bM L len ba 0 = opL L len ba 6 0 := rfl
theorem mn_t {g : Nat × Nat × Nat → Bool} {v : Nat × Nat × Nat → Nat} {b : Nat} {L : SL} {cnt : Nat} {fn fp fr : Nat → Nat} (h : stOK L cnt fn fp fr) {k : Nat} (hk : k < cnt) : mnL g v b (L.take (k + 1)) = if g (fn k, fp k, fr k) = true then min (mnL g v b (L.take k)) (v (fn k, fp k, fr k)) else mnL g v b (L.take k) := by
  have e : L.take (k + 1) = L.take k ++ [(fn k, fp k, fr k)] := by
    rw [List.take_add_one, (stOK_get h hk).2]; rfl
  rw [e, mnL_app]
  rfl
theorem can_t {p s : Nat} {x : Nat × Nat × Nat} (h1 : x.2.1 / 2 ^ p &&& 1 = 1) (h2 : x.2.1 &&& s = 0) : can p s x = true := by unfold can; rw [tb_t h1, decide_eq_true h2]; rfl
theorem can_f1 {p s : Nat} {x : Nat × Nat × Nat} (h1 : x.2.1 / 2 ^ p &&& 1 ≠ 1) : can p s x = false := by unfold can; rw [tb_f h1]; rfl
theorem can_f2 {p s : Nat} {x : Nat × Nat × Nat} (h2 : x.2.1 &&& s ≠ 0) : can p s x = false := by unfold can; rw [decide_eq_false h2, Bool.and_false]
theorem or_ne {u s : Nat} (h : s &&& u = 0) (hs : 0 < s) : u ||| s ≠ u := by
  intro e
  have h1 : s &&& (u ||| s) = s &&& u := by rw [e]
  rw [Nat.and_or_distrib_left, h, Nat.and_self, Nat.zero_or] at h1
  omega
theorem or_bit_ne : ∀ u, u < 64 → (ff6 u < 6 → u ||| 2 ^ ff6 u ≠ u) := by decide +kernel
theorem or_lt {a b l : Nat} (ha : a < 2 ^ l) (hb : b < 2 ^ l) : a ||| b < 2 ^ l := Nat.or_lt_two_pow ha hb
theorem mc_is {L : SL} {cnt : Nat} {fn fp fr : Nat → Nat} {len ba pl t k : Nat} (h : stOK L cnt fn fp fr) (hk : k < cnt) (hno : ∀ j, j < k → mcP L len ba pl t (fn j, fp j, fr j) = false) (hi : mcP L len ba pl t (fn k, fp k, fr k) = true) : mcL L len ba pl t = some (fn k, fp k, fr k) := by
  have e := firstB_find h (B := fun j => mcP L len ba pl t (fn j, fp j, fr j)) (P := mcP L len ba pl t) (fun _ _ => rfl) cnt (Nat.le_refl _)
  rw [List.take_of_length_le (by rw [h.1]; exact Nat.le_refl _), firstB_is hno hi hk] at e
  exact e.symm
theorem mc_no {L : SL} {cnt : Nat} {fn fp fr : Nat → Nat} {len ba pl t : Nat} (h : stOK L cnt fn fp fr) (hno : ∀ j, j < cnt → mcP L len ba pl t (fn j, fp j, fr j) = false) : mcL L len ba pl t = none := by
  have e := firstB_find h (B := fun j => mcP L len ba pl t (fn j, fp j, fr j)) (P := mcP L len ba pl t) (fun _ _ => rfl) cnt (Nat.le_refl _)
  rw [List.take_of_length_le (by rw [h.1]; exact Nat.le_refl _), firstB_none hno] at e
  exact e.symm
theorem pw64 {l : Nat} (h : l ≤ 6) : 2 ^ l ≤ 64 := Nat.pow_le_pow_right (by decide) h
theorem oI_N {o : Option Nat} {e : Nat} (ho : ∀ h, o = some h → h < 2 ^ 31) (he : e < 2 ^ 31) : oI o = nI e ↔ o = some e := by
  cases o with
  | none => exact ⟨fun q => absurd q.symm (nI_m1 he), fun q => by cases q⟩
  | some x =>
    constructor
    · intro q
      have h1 : nI x = nI e := q
      have h2 := congrArg Int32.toInt h1
      rw [nI_toInt (ho x rfl), nI_toInt he] at h2
      rw [show x = e by omega]
    · intro q; cases q; rfl
