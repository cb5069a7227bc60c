/-! ===== the class's calls: their codes, their values ===== -/
theorem st_60 : (RX8, 60, "kind or step is out of range") ∈ strL := List.mem_of_getElem? (i := 0) rfl
theorem st_71 : (RX8, 71, "there are as many rules as there may be") ∈ strL := List.mem_of_getElem? (i := 1) rfl
theorem st_220 : (RX8, 220, "there is no such word") ∈ strL := List.mem_of_getElem? (i := 2) rfl
theorem st_89 : (RX8, 89, "the draft is full") ∈ strL := List.mem_of_getElem? (i := 3) rfl
theorem st_91 : (RX8, 91, "the first part is open") ∈ strL := List.mem_of_getElem? (i := 4) rfl
theorem st_145 : (RX8, 145, "cost is out of range") ∈ strL := List.mem_of_getElem? (i := 5) rfl
theorem st_96 : (RX8, 96, "the draft is empty") ∈ strL := List.mem_of_getElem? (i := 6) rfl
theorem st_98 : (RX8, 98, "the last part is open") ∈ strL := List.mem_of_getElem? (i := 7) rfl
theorem st_233 : (RX8, 233, "as many entries were made as may be") ∈ strL := List.mem_of_getElem? (i := 8) rfl
theorem st_118 : (RX8, 118, "reach is out of range") ∈ strL := List.mem_of_getElem? (i := 9) rfl
theorem st_227 : (RX8, 227, "there is no such entry") ∈ strL := List.mem_of_getElem? (i := 10) rfl
theorem st_136 : (RX8, 136, "the sentence is full") ∈ strL := List.mem_of_getElem? (i := 11) rfl
theorem st_238 : (RX8, 238, "the sentence has no such place") ∈ strL := List.mem_of_getElem? (i := 12) rfl
theorem st_223 : (RX8, 223, "there is no such reader") ∈ strL := List.mem_of_getElem? (i := 13) rfl
theorem st_189 : (RX8, 189, "the reader has a card for it") ∈ strL := List.mem_of_getElem? (i := 14) rfl
theorem st_203 : (RX8, 203, "the reader has no card for it that is due") ∈ strL := List.mem_of_getElem? (i := 15) rfl
theorem st_216 : (RX8, 216, "days is out of range") ∈ strL := List.mem_of_getElem? (i := 16) rfl
def inZ (a b : Int) (p : Int32) : Bool := decide (a ≤ p.toInt) && decide (p.toInt ≤ b)
def n9 (p : Int32) : Nat := p.toInt.toNat
theorem n9_nI {n : Nat} (h : n < 2147483648) : n9 (nI n) = n := by unfold n9; rw [nI_toInt h]; rfl
theorem z_lt {p : Int32} {n : Nat} (h : n < 2147483648) : p < nI n ↔ p.toInt < (n : Int) := by rw [Int32.lt_iff_toInt_lt, nI_toInt h]
theorem z_gt {p : Int32} {n : Nat} (h : n < 2147483648) : nI n < p ↔ (n : Int) < p.toInt := by rw [Int32.lt_iff_toInt_lt, nI_toInt h]
theorem z_le {p : Int32} {n : Nat} (h : n < 2147483648) : p ≤ nI n ↔ p.toInt ≤ (n : Int) := by rw [Int32.le_iff_toInt_le, nI_toInt h]
theorem z_ge {p : Int32} {n : Nat} (h : n < 2147483648) : nI n ≤ p ↔ (n : Int) ≤ p.toInt := by rw [Int32.le_iff_toInt_le, nI_toInt h]
theorem z_lt0 {p : Int32} : p < 0 ↔ p.toInt < 0 := by rw [Int32.lt_iff_toInt_lt]; exact Iff.rfl
theorem z_ge0 {p : Int32} : 0 ≤ p ↔ 0 ≤ p.toInt := by rw [Int32.le_iff_toInt_le]; exact Iff.rfl
theorem z_nI {p : Int32} (h : 0 ≤ p.toInt) : p = nI (n9 p) := by
  have h1 : p.toInt ≤ 2147483647 := by have := Int32.toInt_lt p; omega
  apply Int32.toInt_inj.mp
  rw [nI_toInt (by unfold n9; omega)]
  unfold n9
  omega
theorem z_eq {p : Int32} {n : Nat} (h : n < 2147483648) : p = nI n ↔ p.toInt = (n : Int) := ⟨fun e => by rw [e, nI_toInt h], fun e => Int32.toInt_inj.mp (by rw [nI_toInt h]; exact e)⟩
theorem z_m1 {p : Int32} : p = -1 ↔ p.toInt = -1 := ⟨fun e => by rw [e]; rfl, fun e => Int32.toInt_inj.mp (by rw [e]; rfl)⟩
theorem inZ_t {a b : Int} {p : Int32} (h1 : a ≤ p.toInt) (h2 : p.toInt ≤ b) : inZ a b p = true := by simp [inZ, h1, h2]
theorem inZ_f {a b : Int} {p : Int32} (h : p.toInt < a ∨ b < p.toInt) : inZ a b p = false := by simp [inZ]; omega
theorem inZ_s {a b : Int} {p : Int32} (h : inZ a b p = true) : a ≤ p.toInt ∧ p.toInt ≤ b := by simpa [inZ] using h
theorem inZ_w {a b : Int} {p : Int32} (h : inZ a b p = true) (ha : 0 ≤ a) : ∃ w : Nat, a ≤ w ∧ (w : Int) ≤ b ∧ p = nI w := by
  obtain ⟨h1, h2⟩ := inZ_s h
  exact ⟨n9 p, by unfold n9; omega, by unfold n9; omega, z_nI (by omega)⟩
theorem z_w {a b : Int} {p : Int32} (h1 : a ≤ p.toInt) (h2 : p.toInt ≤ b) (ha : 0 ≤ a) : ∃ w : Nat, a ≤ w ∧ (w : Int) ≤ b ∧ p = nI w := inZ_w (inZ_t h1 h2) ha
theorem inZ_nI {a b : Int} {w : Nat} (hw : w < 2147483648) : inZ a b (nI w) = (decide (a ≤ w) && decide ((w : Int) ≤ b)) := by unfold inZ; rw [nI_toInt hw]
def cntB (P : Nat → Bool) : Nat → Nat
  | 0 => 0
  | k + 1 => cntB P k + (if P k = true then 1 else 0)
theorem cntB_le (P : Nat → Bool) : ∀ k, cntB P k ≤ k
  | 0 => Nat.le_refl _
  | k + 1 => by have h := cntB_le P k; simp only [cntB]; split <;> omega
theorem cntB_t {P : Nat → Bool} {k : Nat} (h : P k = true) : cntB P (k + 1) = cntB P k + 1 := by simp [cntB, h]
theorem cntB_f {P : Nat → Bool} {k : Nat} (h : P k = false) : cntB P (k + 1) = cntB P k := by simp [cntB, h]
theorem cntB_congr {P P' : Nat → Bool} : ∀ {k : Nat}, (∀ j, j < k → P j = P' j) → cntB P k = cntB P' k
  | 0, _ => rfl
  | k + 1, h => by simp only [cntB]; rw [cntB_congr (fun j hj => h j (by omega)), h k (by omega)]
theorem cntB_more {P : Nat → Bool} {a : Nat} (h : ∀ j, a ≤ j → P j = false) : ∀ {b : Nat}, a ≤ b → cntB P b = cntB P a
  | 0, hb => by rw [Nat.le_zero.mp hb]
  | b + 1, hb => by
    rcases Nat.lt_or_ge a (b + 1) with q | q
    · rw [cntB_f (h b (by omega)), cntB_more h (by omega)]
    · rw [show a = b + 1 by omega]
/-- the entries that are there, by their cells -/
def enR (th : Nat → Bool) (ea : Nat → Nat) : Nat → Option Nat := fun e => if th e = true then some (ea e) else none
theorem enR_n {th : Nat → Bool} {ea : Nat → Nat} {e : Nat} (h : enR th ea e = none) : th e = false := by
  unfold enR at h
  split at h
  · cases h
  · simpa using ‹¬ th e = true›
theorem enR_s {th : Nat → Bool} {ea : Nat → Nat} {e b : Nat} (h : enR th ea e = some b) : th e = true ∧ b = ea e := by
  unfold enR at h
  split at h
  · exact ⟨‹_›, (Option.some.inj h).symm⟩
  · cases h
theorem enR_off {th : Nat → Bool} {ea : Nat → Nat} (e : Nat) : va_up (enR th ea) e none = enR (va_up th e false) ea := by
  funext q; by_cases h : q = e <;> simp [va_up, enR, h]
theorem enR_on {th : Nat → Bool} {ea : Nat → Nat} (e a : Nat) : va_up (enR th ea) e (some a) = enR (va_up th e true) (va_up ea e a) := by
  funext q; by_cases h : q = e <;> simp [va_up, enR, h]
def isE (th : Nat → Bool) (p : Int32) : Bool := inZ 0 7 p && th (n9 p)
def c_w (p : Int32) : Nat := if inZ 0 99 p = true then 0 else 1
def c_addRule (p0 p1 : Int32) (n : Nat) : Nat := if inZ 0 2 p0 = true ∧ inZ 1 50 p1 = true then (if 6 ≤ n then 2 else 0) else 1
def c_isForm (p0 p1 : Int32) : Nat := if inZ 0 99 p0 = true ∧ inZ 0 99 p1 = true then 0 else 1
def c_part (p0 : Int32) (ds : Nat) : Nat := if p0 ≠ -1 ∧ inZ 0 99 p0 = false then 1 else if 4 ≤ ds ∨ (p0 = -1 ∧ ds = 0) then 2 else 0
def c_addPhrase (p0 : Int32) (ds : Nat) (dr : Nat → Option Nat) (mc : Nat) : Nat := if inZ 1 20 p0 = false then 1 else if ds = 0 ∨ dr (ds - 1) = none ∨ 8 ≤ mc then 2 else 0
def c_addSplit (p0 p1 p2 p3 : Int32) (mc : Nat) : Nat := if inZ 0 99 p0 = false ∨ inZ 0 99 p1 = false then 1 else if inZ 0 4 p2 = false ∨ inZ 1 20 p3 = false then 2 else if 8 ≤ mc then 3 else 0
def c_takeOut (p0 : Int32) (th : Nat → Bool) : Nat := if isE th p0 = true then 0 else 1
def c_say (p0 : Int32) (len : Nat) : Nat := if inZ 0 99 p0 = false then 1 else if 6 ≤ len then 2 else 0
def c_setBare (p0 : Int32) : Nat := if inZ 1 50 p0 = true then 0 else 1
def c_place (p0 : Int32) (len : Nat) : Nat := if inZ 0 ((len : Int) - 1) p0 = true then 0 else 1
def c_reader (p0 : Int32) : Nat := if inZ 0 2 p0 = true then 0 else 1
def c_learn (p0 p1 : Int32) (th : Nat → Bool) (iv : Nat → Nat → Nat) : Nat := if inZ 0 2 p0 = false then 1 else if isE th p1 = false then 2 else if 0 < iv (n9 p0) (n9 p1) then 3 else 0
def c_review (p0 p1 : Int32) (th : Nat → Bool) (iv dv : Nat → Nat → Nat) (dy : Nat) : Nat := if inZ 0 2 p0 = false then 1 else if isE th p1 = false then 2 else if 0 < iv (n9 p0) (n9 p1) ∧ dv (n9 p0) (n9 p1) ≤ dy then 0 else 3
def c_knows (p0 p1 : Int32) (th : Nat → Bool) : Nat := if inZ 0 2 p0 = false then 1 else if isE th p1 = false then 2 else 0
def c_pass (p0 : Int32) : Nat := if inZ 1 100 p0 = true then 0 else 1
/-- the cards with those for an entry dropped, by the first readers -/
def drp (iv : Nat → Nat → Nat) (e : Nat) : Nat → (Nat → Nat → Nat)
  | 0 => iv
  | r + 1 => va_up (drp iv e r) r (va_up (drp iv e r r) e 0)
theorem z_nat {p : Int32} (h : ¬ p.toInt < 0) : ∃ w : Nat, w < 2147483648 ∧ p = nI w := ⟨n9 p, by have := Int32.toInt_lt p; unfold n9; omega, z_nI (by omega)⟩
theorem isE_nI {th : Nat → Bool} {w : Nat} (h : w < 8) : isE th (nI w) = th w := by
  unfold isE
  rw [inZ_nI (by omega), n9_nI (by omega)]
  simp
  omega
theorem isE_ge {th : Nat → Bool} {w : Nat} (h : 8 ≤ w) (h2 : w < 2147483648) : isE th (nI w) = false := by
  unfold isE
  rw [inZ_nI (by omega)]
  simp
  omega
theorem isE_neg {th : Nat → Bool} {p : Int32} (h : p.toInt < 0) : isE th p = false := by
  unfold isE
  rw [inZ_f (Or.inl h)]
  rfl
theorem isE_w {th : Nat → Bool} {p : Int32} (h : isE th p = true) : ∃ w : Nat, w < 8 ∧ p = nI w ∧ th w = true := by
  unfold isE at h
  rw [Bool.and_eq_true] at h
  obtain ⟨w, -, h2, rfl⟩ := inZ_w h.1 (by decide)
  rw [n9_nI (by omega)] at h
  exact ⟨w, by omega, rfl, h.2⟩
theorem drp_at (iv : Nat → Nat → Nat) (e : Nat) : ∀ k r j, drp iv e k r j = if r < k ∧ j = e then 0 else iv r j
  | 0, r, j => by simp [drp]
  | k + 1, r, j => by
    have h := drp_at iv e k
    simp only [drp, va_up]
    by_cases e1 : r = k
    · subst e1
      by_cases e2 : j = e
      · simp [e2, va_up]
      · simp [e2, h, va_up]
    · have q : (r < k + 1) = (r < k) := propext (by omega)
      simp only [if_neg e1, h, q]
/-- what may stand in a card's interval -/
def ip (v : Nat) : Prop := v = 0 ∨ v = 1 ∨ v = 2 ∨ v = 4 ∨ v = 8 ∨ v = 16 ∨ v = 32 ∨ v = 64
/-- a part of a draft: open, or a headword -/
def oP (p : Int32) : Option Nat := if p = -1 then none else some (n9 p)
theorem oP_m1 : oP (-1) = none := rfl
theorem oP_nI {w : Nat} (h : w < 2147483648) : oP (nI w) = some w := by
  unfold oP
  rw [if_neg (nI_m1 h), n9_nI h]
/-- a card's next interval -/
def rvI (gw : Bool) (v : Nat) : Nat := if gw = true then min (2 * v) 64 else 1
theorem KW_put {iv dv : Nat → Nat → Nat} (h : KW iv dv) {r e x t : Nat} (hx : x ≤ 64) (ht : t < 2 ^ 30) : KW (va_up iv r (va_up (iv r) e x)) (va_up dv r (va_up (dv r) e t)) := by
  intro r' e'
  have h1 := h r' e'
  have h2 := h r e'
  constructor
  · simp only [va_up]
    split
    · simp only [va_up]
      split
      · exact hx
      · rename_i e1 _; rw [e1] at h1; exact h1.1
    · exact h1.1
  · simp only [va_up]
    split
    · simp only [va_up]
      split
      · exact ht
      · rename_i e1 _; rw [e1] at h1; exact h1.2
    · exact h1.2
theorem drp_same {iv : Nat → Nat → Nat} {e k : Nat} : decide (0 < drp iv e k k e) = decide (0 < iv k e) := by rw [drp_at]; simp
theorem drp_skip {iv : Nat → Nat → Nat} {e k : Nat} (h : drp iv e k k e = 0) : drp iv e (k + 1) = drp iv e k := by
  funext r j
  simp only [drp, va_up]
  by_cases e1 : r = k
  · subst e1
    by_cases e2 : j = e
    · subst e2; simp [va_up, h]
    · simp [va_up, e2]
  · simp [e1]
theorem KW_off {iv dv : Nat → Nat → Nat} (h : KW iv dv) {r e : Nat} : KW (va_up iv r (va_up (iv r) e 0)) dv := by
  intro r' e'
  have h1 := h r' e'
  have h2 := h r e'
  refine ⟨?_, h1.2⟩
  simp only [va_up]
  split
  · simp only [va_up]
    split
    · omega
    · exact h2.1
  · exact h1.1
