/-! ===== what the methods say, in plain words: forms, standings, covers ===== -/
/-- does a rule among the first i lead the word w back to the headword h -/
def fmL (fk fs : Nat → Nat) (w h : Nat) : Nat → Bool
  | 0 => false
  | i + 1 => fmL fk fs w h i || (decide (fk i = h % 3) && decide (w = h + fs i))
def fm (n : Nat) (fk fs : Nat → Nat) (w h : Nat) : Bool := decide (w = h) || fmL fk fs w h n
/-- the standings, a row each: the entry's number, the set of its places, its price -/
abbrev SL : Type := List (Nat × Nat × Nat)
/-- the lowest place of a set -/
def tz6 (s : Nat) : Nat := if s % 2 = 1 then 0 else if s / 2 % 2 = 1 then 1 else if s / 4 % 2 = 1 then 2 else if s / 8 % 2 = 1 then 3 else if s / 16 % 2 = 1 then 4 else if s / 32 % 2 = 1 then 5 else 32
def fits (s place taken : Nat) : Bool := decide (tz6 s = place) && decide (s &&& taken = 0)
/-- the least cost from a place on, by the first i standings -/
def lfN (M : Nat → Nat → Nat) (fp fr : Nat → Nat) (place taken idle : Nat) : Nat → Nat
  | 0 => idle + M (place + 1) taken
  | i + 1 => if fits (fp i) place taken = true then min (lfN M fp fr place taken idle i) (fr i + M (place + 1) (taken ||| fp i)) else lfN M fp fr place taken idle i
def tzm (s : Nat) : Nat := 2 ^ tz6 s - 1
theorem tzm_okA : ∀ x, x < 64 → (0 < x → (nI x ^^^ (-1)) &&& nI (x - 1) = nI (tzm x)) := by decide +kernel
theorem tzm_ok (x : Nat) (h0 : 0 < x) (h1 : x < 64) : (nI x ^^^ (-1)) &&& nI (x - 1) = nI (tzm x) := tzm_okA x h1 h0
theorem tzm_allA : ∀ x, x < 64 → (0 < x → (tzm x = 0 ∧ tz6 x = 0) ∨ (tzm x = 1 ∧ tz6 x = 1) ∨ (tzm x = 3 ∧ tz6 x = 2) ∨ (tzm x = 7 ∧ tz6 x = 3) ∨ (tzm x = 15 ∧ tz6 x = 4) ∨ (tzm x = 31 ∧ tz6 x = 5)) := by decide +kernel
theorem tzm_all (x : Nat) (h0 : 0 < x) (h1 : x < 64) : (tzm x = 0 ∧ tz6 x = 0) ∨ (tzm x = 1 ∧ tz6 x = 1) ∨ (tzm x = 3 ∧ tz6 x = 2) ∨ (tzm x = 7 ∧ tz6 x = 3) ∨ (tzm x = 15 ∧ tz6 x = 4) ∨ (tzm x = 31 ∧ tz6 x = 5) := tzm_allA x h1 h0
/-- how many places a set has -/
def bc6 (s : Nat) : Nat := s % 2 + s / 2 % 2 + s / 4 % 2 + s / 8 % 2 + s / 16 % 2 + s / 32 % 2
theorem tz6_lt : ∀ x, x < 64 → (0 < x → tz6 x < 6) := by decide +kernel
def RW (n : Nat) (fk fs : Nat → Nat) : Prop := n ≤ 6 ∧ (∀ i, fk i < 3) ∧ ∀ i, fs i ≤ 50
def SW (len : Nat) (fw : Nat → Nat) : Prop := len ≤ 6 ∧ ∀ i, fw i < 100
def PW (pn : Nat) (pa : Nat → Option Nat) : Prop := 1 ≤ pn ∧ pn ≤ 4 ∧ ∀ i h, pa i = some h → h < 100
theorem fmL_t {fk fs : Nat → Nat} {w h : Nat} : ∀ {n i : Nat}, i < n → fk i = h % 3 → w = h + fs i → fmL fk fs w h n = true
  | 0, i, hi, _, _ => absurd hi (Nat.not_lt_zero i)
  | n + 1, i, hi, h1, h2 => by
    rcases Nat.lt_or_ge i n with q | q
    · simp [fmL, fmL_t q h1 h2]
    · have e : i = n := by omega
      subst e
      simp [fmL, h1, h2]
theorem fm_t {n : Nat} {fk fs : Nat → Nat} {w h i : Nat} (hi : i < n) (h1 : fk i = h % 3) (h2 : w = h + fs i) : fm n fk fs w h = true := by simp [fm, fmL_t hi h1 h2]
/-- the phrase of pn parts, from the place f on: does it stand, by its first i parts; which places it takes -/
def phOk (n : Nat) (fk fs : Nat → Nat) (len : Nat) (fw : Nat → Nat) (pa : Nat → Option Nat) (f : Nat) : Nat → Bool
  | 0 => true
  | i + 1 => phOk n fk fs len fw pa f i && (match pa i with
    | none => true
    | some h => decide (f + i < len) && fm n fk fs (fw (f + i)) h)
def phSet (pa : Nat → Option Nat) (f : Nat) : Nat → Nat
  | 0 => 0
  | i + 1 => match pa i with
    | none => phSet pa f i
    | some _ => phSet pa f i ||| 2 ^ (f + i)
def phAt (n : Nat) (fk fs : Nat → Nat) (len : Nat) (fw : Nat → Nat) (pa : Nat → Option Nat) (pn f : Nat) : Nat := if phOk n fk fs len fw pa f pn = true then phSet pa f pn else 0
theorem phOk_f {n : Nat} {fk fs : Nat → Nat} {len : Nat} {fw : Nat → Nat} {pa : Nat → Option Nat} {f : Nat} : ∀ {pn i : Nat} {h : Nat}, i < pn → pa i = some h → (decide (f + i < len) && fm n fk fs (fw (f + i)) h) = false → phOk n fk fs len fw pa f pn = false
  | 0, i, _, hi, _, _ => absurd hi (Nat.not_lt_zero i)
  | pn + 1, i, h, hi, h1, h2 => by
    rcases Nat.lt_or_ge i pn with q | q
    · simp only [phOk, phOk_f q h1 h2, Bool.false_and]
    · have e : i = pn := by omega
      subst e
      simp only [phOk, h1, h2, Bool.and_false]
def phL (n : Nat) (fk fs : Nat → Nat) (len : Nat) (fw : Nat → Nat) (pa : Nat → Option Nat) (pn en pr : Nat) : Nat → SL
  | 0 => []
  | f + 1 => phL n fk fs len fw pa pn en pr f ++ (if phAt n fk fs len fw pa pn f = 0 then [] else [(en, phAt n fk fs len fw pa pn f, pr)])
def spB (n : Nat) (fk fs : Nat → Nat) (len : Nat) (fw : Nat → Nat) (en pr sec f : Nat) : Nat → SL
  | 0 => []
  | b + 1 => spB n fk fs len fw en pr sec f b ++ (if (decide (f + 1 + b < len) && fm n fk fs (fw (f + 1 + b)) sec) = true then [(en, 2 ^ f ||| 2 ^ (f + 1 + b), pr)] else [])
def spL (n : Nat) (fk fs : Nat → Nat) (len : Nat) (fw : Nat → Nat) (en pr fst sec rch : Nat) : Nat → SL
  | 0 => []
  | f + 1 => spL n fk fs len fw en pr fst sec rch f ++ (if (decide (f < len) && fm n fk fs (fw f) fst) = true then spB n fk fs len fw en pr sec f (rch + 1) else [])
/-- the first cnt places of the three rows hold the list -/
def stOK (L : SL) (cnt : Nat) (fn fp fr : Nat → Nat) : Prop := L.length = cnt ∧ ∀ (i : Nat) (x : Nat × Nat × Nat), L[i]? = some x → fn i = x.1 ∧ fp i = x.2.1 ∧ fr i = x.2.2
theorem stOK_0 {fn fp fr : Nat → Nat} : stOK [] 0 fn fp fr := ⟨rfl, fun i x h => by simp at h⟩
theorem stOK_put {L : SL} {cnt : Nat} {fn fp fr : Nat → Nat} (h : stOK L cnt fn fp fr) (en s v : Nat) : stOK (L ++ [(en, s, v)]) (cnt + 1) (va_up fn cnt en) (va_up fp cnt s) (va_up fr cnt v) := by
  obtain ⟨h1, h2⟩ := h
  refine ⟨by simp [h1], fun i x hx => ?_⟩
  rcases Nat.lt_or_ge i cnt with q | q
  · rw [List.getElem?_append_left (by omega)] at hx
    obtain ⟨a, b, c⟩ := h2 i x hx
    have hne : i ≠ cnt := by omega
    rw [va_up_ne _ _ hne, va_up_ne _ _ hne, va_up_ne _ _ hne]
    exact ⟨a, b, c⟩
  · have hi := (List.getElem?_eq_some_iff.mp hx).1
    have e : i = cnt := by simp at hi; omega
    subst e
    rw [List.getElem?_append_right (by omega), h1] at hx
    simp at hx
    subst hx
    simp [va_up]
theorem phL_len {n : Nat} {fk fs : Nat → Nat} {len : Nat} {fw : Nat → Nat} {pa : Nat → Option Nat} {pn en pr : Nat} : ∀ f, (phL n fk fs len fw pa pn en pr f).length ≤ f
  | 0 => Nat.le_refl _
  | f + 1 => by
    have h := phL_len (n := n) (fk := fk) (fs := fs) (len := len) (fw := fw) (pa := pa) (pn := pn) (en := en) (pr := pr) f
    simp only [phL, List.length_append]
    split <;> simp <;> omega
theorem spB_len {n : Nat} {fk fs : Nat → Nat} {len : Nat} {fw : Nat → Nat} {en pr sec f : Nat} (hl : len ≤ 6) : ∀ b, (spB n fk fs len fw en pr sec f b).length ≤ b ∧ (spB n fk fs len fw en pr sec f b).length ≤ 5 - f
  | 0 => ⟨Nat.le_refl _, Nat.zero_le _⟩
  | b + 1 => by
    obtain ⟨h1, h2⟩ := spB_len (n := n) (fk := fk) (fs := fs) (fw := fw) (en := en) (pr := pr) (sec := sec) (f := f) hl b
    simp only [spB, List.length_append]
    split
    · rename_i q
      simp only [Bool.and_eq_true, decide_eq_true_eq] at q
      simp only [List.length_cons, List.length_nil]
      omega
    · simp; omega
theorem spL_len {n : Nat} {fk fs : Nat → Nat} {len : Nat} {fw : Nat → Nat} {en pr fst sec rch : Nat} (hl : len ≤ 6) : ∀ f, f ≤ 6 → 2 * (spL n fk fs len fw en pr fst sec rch f).length ≤ f * (11 - f)
  | 0, _ => Nat.le_refl _
  | f + 1, hf => by
    have h := spL_len (n := n) (fk := fk) (fs := fs) (fw := fw) (en := en) (pr := pr) (fst := fst) (sec := sec) (rch := rch) hl f (by omega)
    have hb := (spB_len (n := n) (fk := fk) (fs := fs) (fw := fw) (en := en) (pr := pr) (sec := sec) (f := f) hl (rch + 1)).2
    simp only [spL, List.length_append]
    have hm : f * (11 - f) + 2 * (5 - f) ≤ (f + 1) * (11 - (f + 1)) := by
      rcases (show f = 0 ∨ f = 1 ∨ f = 2 ∨ f = 3 ∨ f = 4 ∨ f = 5 by omega) with e | e | e | e | e | e <;> subst e <;> decide
    split
    · omega
    · rw [List.length_nil]; omega
theorem sp_room {n : Nat} {fk fs : Nat → Nat} {len : Nat} {fw : Nat → Nat} {en pr fst sec rch f b : Nat} (hl : len ≤ 6) (h : f + 1 + b < len) : (spL n fk fs len fw en pr fst sec rch f).length + (spB n fk fs len fw en pr sec f b).length < 15 := by
  have h1 := spL_len (n := n) (fk := fk) (fs := fs) (fw := fw) (en := en) (pr := pr) (fst := fst) (sec := sec) (rch := rch) hl f (by omega)
  have h2 := (spB_len (n := n) (fk := fk) (fs := fs) (fw := fw) (en := en) (pr := pr) (sec := sec) (f := f) hl b).1
  rcases (show f = 0 ∨ f = 1 ∨ f = 2 ∨ f = 3 ∨ f = 4 by omega) with e | e | e | e | e <;> subst e <;> omega
theorem phSet_lt {pa : Nat → Option Nat} {f : Nat} {n : Nat} {fk fs : Nat → Nat} {len : Nat} {fw : Nat → Nat} (hl : len ≤ 6) : ∀ i, phOk n fk fs len fw pa f i = true → phSet pa f i < 64
  | 0, _ => by show 0 < 64; decide
  | i + 1, h => by
    simp only [phOk, Bool.and_eq_true] at h
    have h1 := phSet_lt hl i h.1
    simp only [phSet]
    cases hp : pa i with
    | none => exact h1
    | some v =>
      have h2 := h.2
      rw [hp] at h2
      simp only [Bool.and_eq_true, decide_eq_true_eq] at h2
      have h3 : 2 ^ (f + i) < 64 := by
        have : f + i ≤ 5 := by omega
        exact Nat.lt_of_le_of_lt (Nat.pow_le_pow_right (by decide) this) (by decide)
      exact Nat.or_lt_two_pow (n := 6) h1 h3
theorem phAt_lt {n : Nat} {fk fs : Nat → Nat} {len : Nat} {fw : Nat → Nat} {pa : Nat → Option Nat} {pn f : Nat} (hP : PW pn pa) (hS : SW len fw) (hR : RW n fk fs) (_ : f < 6) : phAt n fk fs len fw pa pn f < 64 := by
  unfold phAt
  split
  · rename_i q
    exact phSet_lt hS.1 pn q
  · decide
