/-! ===== a row with a value put at the places of a set ===== -/
def mkA {α : Type} (f : Nat → α) (s : Nat) (v : α) (q : Nat) : Nat → α := fun j => if j < q ∧ tb s j = true then v else f j
section MKA
variable {α : Type} {f g : Nat → α} {s q : Nat} {v : α}
theorem mkA_0 : mkA f s v 0 = f := by funext j; simp [mkA]
theorem mkA_f (h : g = mkA f s v q) (c : s / 2 ^ q &&& 1 ≠ 1) : g = mkA f s v (q + 1) := by
  rw [h]
  funext j
  unfold mkA
  by_cases e : j = q
  · subst e; simp [tb_f c]
  · have r : (j < q + 1) = (j < q) := propext (by omega)
    simp only [r]
theorem mkA_u (h : g = mkA f s v q) (c : s / 2 ^ q &&& 1 = 1) : va_up g q v = mkA f s v (q + 1) := by
  rw [h]
  funext j
  unfold mkA va_up
  by_cases e : j = q
  · subst e; simp [tb_t c]
  · have r : (j < q + 1) = (j < q) := propext (by omega)
    simp only [r, if_neg e]
end MKA
theorem mkA_t {gl : Nat → Option Nat} {st : Nat → Nat} {s q j : Nat} {e : Option Nat} {v : Nat} (hq : j < q) (h : tb s j = true) : mkA gl s e q j = e ∧ mkA st s v q j = v := ⟨if_pos ⟨hq, h⟩, if_pos ⟨hq, h⟩⟩
theorem mkA_n {gl : Nat → Option Nat} {st : Nat → Nat} {s q j : Nat} {e : Option Nat} {v : Nat} (h : tb s j = false) : mkA gl s e q j = gl j ∧ mkA st s v q j = st j := ⟨if_neg (fun z => by rw [h] at z; cases z.2), if_neg (fun z => by rw [h] at z; cases z.2)⟩
theorem tb_pw {p j : Nat} (hp : p < 6) (hj : j < 6) (h : tb (2 ^ p) j = true) : j = p := by rw [tb_pow p hp j hj, decide_eq_true_eq] at h; exact h
theorem tb_pwn {p j : Nat} (hp : p < 6) (hj : j < 6) (h : tb (2 ^ p) j = false) : j ≠ p := by rw [tb_pow p hp j hj, decide_eq_false_iff_not] at h; exact h
theorem mcS_lt {L : SL} {len ba pl t : Nat} (hL : LW len L) (hp : pl < len) : mcS (mcL L len ba pl t) pl < 2 ^ len := by
  cases h : mcL L len ba pl t with
  | none => exact Nat.pow_lt_pow_right (by decide) hp
  | some x => exact (hL.2 x (fd_some h).1).2
theorem mcS_gt {L : SL} {len ba t : Nat} (hL : LW len L) (ht : t < 64) (hf : ff6 t < 6) : t < t ||| mcS (mcL L len ba (ff6 t) t) (ff6 t) := by
  have h1 : t ≤ t ||| mcS (mcL L len ba (ff6 t) t) (ff6 t) := Nat.left_le_or
  have h2 : t ||| mcS (mcL L len ba (ff6 t) t) (ff6 t) ≠ t := by
    cases h : mcL L len ba (ff6 t) t with
    | none => exact or_bit_ne t ht hf
    | some x =>
      obtain ⟨a, b⟩ := fd_some h
      unfold mcP can at b
      rw [Bool.and_eq_true, Bool.and_eq_true, decide_eq_true_eq] at b
      exact or_ne b.1.2 (hL.2 x a).1
  omega
theorem MI_step2 {L : SL} {len ba set : Nat} {gl gl' : Nat → Option Nat} {st st' : Nat → Nat} (h : LW len L) (hu : set < 64) (hf : ff6 set < 6) (H : MI L len ba set gl st) (hg : ∀ j, j < 6 → tb (mcS (mcL L len ba (ff6 set) set) (ff6 set)) j = true → gl' j = (mcL L len ba (ff6 set) set).map (fun x => x.1) ∧ st' j = ((mcL L len ba (ff6 set) set).map (fun x => x.2.1)).getD 0) (hk : ∀ j, j < 6 → tb (mcS (mcL L len ba (ff6 set) set) (ff6 set)) j = false → gl' j = gl j ∧ st' j = st j) : MI L len ba (set ||| mcS (mcL L len ba (ff6 set) set) (ff6 set)) gl' st' := by
  have e : fg6 set = ff6 set := Nat.min_eq_left (Nat.le_of_lt hf)
  exact MI_step h hu (by rw [e]; exact hf) H (by rw [e]) (by rw [e]) hg hk
theorem smN_120 {n : Nat} {fk fs : Nat → Nat} {len : Nat} {fw : Nat → Nat} {rc : Nat → Option Nat} {ck pm : Nat → Nat} {ep : Nat → Nat → Option Nat} {th : Nat → Bool} {mc : Nat} (hS : SW len fw) (hE : EW mc rc ck pm ep) (hth : ∀ e, th e = true → e < mc) (hm : mc ≤ 8) : (smN n fk fs len fw rc ck pm ep th mc).length ≤ 120 := by
  rw [smN_len hS hE hth]
  have h1 := stN_len (n := n) (fk := fk) (fs := fs) (fw := fw) (rc := rc) (ck := ck) (pm := pm) (ep := ep) (th := th) hS.1 mc
  omega
theorem smN_20 {n : Nat} {fk fs : Nat → Nat} {len : Nat} {fw : Nat → Nat} {rc : Nat → Option Nat} {ck pm : Nat → Nat} {ep : Nat → Nat → Option Nat} {th : Nat → Bool} {mc : Nat} (hE : EW mc rc ck pm ep) (hm : mc ≤ 8) : ∀ x ∈ smN n fk fs len fw rc ck pm ep th mc, x.1 < 8 ∧ x.2.2 ≤ 20 := fun x hx => by
  obtain ⟨a, -, -, -, d⟩ := smN_ok hx
  rw [d]
  exact ⟨by omega, (hE x.1 a).1⟩
theorem down_0b {x : Int32} {j : Nat} (hx : x = nI j - 1) (c : x < 0) (hj : j ≤ 64) : j = 0 := by
  cases j with
  | zero => rfl
  | succ q =>
    exfalso
    rw [hx, nI_sub1, Int32.lt_iff_toInt_lt, nI_toInt (by omega)] at c
    have h0 : (0 : Int32).toInt = 0 := rfl
    omega
