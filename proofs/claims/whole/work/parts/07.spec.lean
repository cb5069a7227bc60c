/-! ===== what the methods say, in plain words: forms, standings, covers ===== -/
/-- does a rule among the first i lead the word w back to the headword h -/
def fmL (fk fs : Nat → Nat) (w h : Nat) : Nat → Bool
  | 0 => false
  | i + 1 => fmL fk fs w h i || (decide (fk i = h % 3) && decide (w = h + fs i))
def fm (n : Nat) (fk fs : Nat → Nat) (w h : Nat) : Bool := decide (w = h) || fmL fk fs w h n
/-- the standings, a row each: the entry's number, the set of its places, its price -/
abbrev SL : Type := List (Nat × Nat × Nat)
/-- the lowest place of a set -/
def tz6 (s : Nat) : Nat := if s % 2 = 1 then 0 else if s / 2 % 2 = 1 then 1 else if s / 4 % 2 = 1 then 2 else if s / 8 % 2 = 1 then 3 else if s / 16 % 2 = 1 then 4 else if s / 32 % 2 = 1 then 5 else 32
def fits (s place taken : Nat) : Bool := decide (tz6 s = place) && decide (s &&& taken = 0)
/-- the least cost from a place on, by the first i standings -/
def lfN (M : Nat → Nat → Nat) (fp fr : Nat → Nat) (place taken idle : Nat) : Nat → Nat
  | 0 => idle + M (place + 1) taken
  | i + 1 => if fits (fp i) place taken = true then min (lfN M fp fr place taken idle i) (fr i + M (place + 1) (taken ||| fp i)) else lfN M fp fr place taken idle i
def tzm (s : Nat) : Nat := 2 ^ tz6 s - 1
theorem tzm_okA : ∀ x, x < 64 → (0 < x → (nI x ^^^ (-1)) &&& nI (x - 1) = nI (tzm x)) := by decide +kernel
theorem tzm_ok (x : Nat) (h0 : 0 < x) (h1 : x < 64) : (nI x ^^^ (-1)) &&& nI (x - 1) = nI (tzm x) := tzm_okA x h1 h0
theorem tzm_allA : ∀ x, x < 64 → (0 < x → (tzm x = 0 ∧ tz6 x = 0) ∨ (tzm x = 1 ∧ tz6 x = 1) ∨ (tzm x = 3 ∧ tz6 x = 2) ∨ (tzm x = 7 ∧ tz6 x = 3) ∨ (tzm x = 15 ∧ tz6 x = 4) ∨ (tzm x = 31 ∧ tz6 x = 5)) := by decide +kernel
theorem tzm_all (x : Nat) (h0 : 0 < x) (h1 : x < 64) : (tzm x = 0 ∧ tz6 x = 0) ∨ (tzm x = 1 ∧ tz6 x = 1) ∨ (tzm x = 3 ∧ tz6 x = 2) ∨ (tzm x = 7 ∧ tz6 x = 3) ∨ (tzm x = 15 ∧ tz6 x = 4) ∨ (tzm x = 31 ∧ tz6 x = 5) := tzm_allA x h1 h0
/-- how many places a set has -/
def bc6 (s : Nat) : Nat := s % 2 + s / 2 % 2 + s / 4 % 2 + s / 8 % 2 + s / 16 % 2 + s / 32 % 2
theorem tz6_lt : ∀ x, x < 64 → (0 < x → tz6 x < 6) := by decide +kernel
