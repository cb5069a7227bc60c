/-! ===== what the methods say, in plain words: forms, standings, covers ===== -/
/-- does a rule among the first i lead the word w back to the headword h -/
def fmL (fk fs : Nat → Nat) (w h : Nat) : Nat → Bool
  | 0 => false
  | i + 1 => fmL fk fs w h i || (decide (fk i = h % 3) && decide (w = h + fs i))
def fm (n : Nat) (fk fs : Nat → Nat) (w h : Nat) : Bool := decide (w = h) || fmL fk fs w h n
/-- the standings, a row each: the entry's number, the set of its places, its price -/
abbrev SL : Type := List (Nat × Nat × Nat)
/-- the lowest place of a set -/
def tz6 (s : Nat) : Nat := if s % 2 = 1 then 0 else if s / 2 % 2 = 1 then 1 else if s / 4 % 2 = 1 then 2 else if s / 8 % 2 = 1 then 3 else if s / 16 % 2 = 1 then 4 else if s / 32 % 2 = 1 then 5 else 32
def fits (s place taken : Nat) : Bool := decide (tz6 s = place) && decide (s &&& taken = 0)
/-- the bit of a place in a set -/
def tb (t p : Nat) : Bool := decide (t / 2 ^ p &&& 1 = 1)
theorem tb_t {t p : Nat} (h : t / 2 ^ p &&& 1 = 1) : tb t p = true := decide_eq_true h
theorem tb_n {t p : Nat} (h : t / 2 ^ p &&& 1 ≠ 1) : ¬ tb t p = true := fun q => h (of_decide_eq_true q)
theorem tb_f {t p : Nat} (h : t / 2 ^ p &&& 1 ≠ 1) : tb t p = false := decide_eq_false h
theorem tb_n0 {t p : Nat} (h : t / 2 ^ p &&& 1 = 0) : ¬ tb t p = true := tb_n (by omega)
theorem tb_t0 {t p : Nat} (h : t / 2 ^ p &&& 1 ≠ 0) : tb t p = true := tb_t (by have h2 : t / 2 ^ p &&& 1 ≤ 1 := Nat.and_le_right; omega)
theorem bit_le (t p : Nat) : t / 2 ^ p &&& 1 ≤ 1 := Nat.and_le_right
/-- the least cost from a place on, by the first i standings; m: the costs of the next place -/
def lfN (m : Nat → Nat) (fp fr : Nat → Nat) (pl tk idl : Nat) : Nat → Nat
  | 0 => idl + m tk
  | i + 1 => if fits (fp i) pl tk = true then min (lfN m fp fr pl tk idl i) (fr i + m (tk ||| fp i)) else lfN m fp fr pl tk idl i
def lfR (m : Nat → Nat) (fp fr : Nat → Nat) (cnt pl tk idl : Nat) : Nat := if tb tk pl = true then m tk else lfN m fp fr pl tk idl cnt
/-- the costs of the last k places -/
def optR (fp fr : Nat → Nat) (cnt size bare : Nat) : Nat → Nat → Nat
  | 0 => fun _ => 0
  | k + 1 => fun t => lfR (optR fp fr cnt size bare k) fp fr cnt (5 - k) t (if 5 - k < size then bare else 0)
def FW (cnt : Nat) (fp fr : Nat → Nat) : Prop := cnt ≤ 120 ∧ ∀ i, i < cnt → 0 < fp i ∧ fp i < 64 ∧ fr i ≤ 20
def MW (M : Nat → Nat → Nat) : Prop := ∀ i t, M i t ≤ 300
theorem lfN_le {m : Nat → Nat} {fp fr : Nat → Nat} {pl tk idl : Nat} : ∀ i, lfN m fp fr pl tk idl i ≤ idl + m tk
  | 0 => Nat.le_refl _
  | i + 1 => by
    have h := lfN_le (m := m) (fp := fp) (fr := fr) (pl := pl) (tk := tk) (idl := idl) i
    simp only [lfN]
    split
    · omega
    · exact h
theorem lfR_le {m : Nat → Nat} {fp fr : Nat → Nat} {cnt pl tk idl : Nat} : lfR m fp fr cnt pl tk idl ≤ idl + m tk := by
  unfold lfR
  split
  · omega
  · exact lfN_le cnt
theorem optR_le {fp fr : Nat → Nat} {cnt size bare : Nat} (hb : bare ≤ 50) : ∀ k t, optR fp fr cnt size bare k t ≤ 50 * k
  | 0, _ => Nat.le_refl _
  | k + 1, t => by
    have h := optR_le (fp := fp) (fr := fr) (cnt := cnt) (size := size) hb k t
    have h2 := lfR_le (m := optR fp fr cnt size bare k) (fp := fp) (fr := fr) (cnt := cnt) (pl := 5 - k) (tk := t) (idl := if 5 - k < size then bare else 0)
    simp only [optR]
    split at h2 <;> split <;> omega
theorem or64 {a b : Nat} (ha : a < 64) (hb : b < 64) : a ||| b < 64 := Nat.or_lt_two_pow (n := 6) ha hb
theorem and63 {x : Nat} (h : x < 64) : nI x &&& nI 63 = nI x := by
  rw [nI_and, show (63 : Nat) = 2 ^ 6 - 1 from rfl, Nat.and_two_pow_sub_one_eq_mod, Nat.mod_eq_of_lt h]
/-- the first number under n that is so -/
def firstB (P : Nat → Bool) : Nat → Option Nat
  | 0 => none
  | n + 1 => match firstB P n with
    | some i => some i
    | none => if P n = true then some n else none
theorem firstB_none {P : Nat → Bool} : ∀ {n : Nat}, (∀ j, j < n → P j = false) → firstB P n = none
  | 0, _ => rfl
  | n + 1, h => by simp [firstB, firstB_none (n := n) (fun j hj => h j (by omega)), h n (by omega)]
theorem firstB_is {P : Nat → Bool} {i : Nat} (h : ∀ j, j < i → P j = false) (hi : P i = true) : ∀ {n : Nat}, i < n → firstB P n = some i
  | 0, q => absurd q (Nat.not_lt_zero i)
  | n + 1, q => by
    rcases Nat.lt_or_ge i n with r | r
    · simp [firstB, firstB_is h hi r]
    · have e : i = n := by omega
      subst e
      simp [firstB, firstB_none h, hi]
theorem firstB_some {P : Nat → Bool} {i : Nat} : ∀ {n : Nat}, firstB P n = some i → i < n ∧ P i = true ∧ ∀ j, j < i → P j = false
  | 0, h => by simp [firstB] at h
  | n + 1, h => by
    simp only [firstB] at h
    cases q : firstB P n with
    | some k =>
      rw [q] at h
      have e : k = i := Option.some.inj h
      subst e
      obtain ⟨a, b, c⟩ := firstB_some q
      exact ⟨by omega, b, c⟩
    | none =>
      rw [q] at h
      have hn : ∀ j, j < n → P j = false := by
        intro j hj
        cases hp : P j with
        | false => rfl
        | true =>
          exfalso
          have : ∀ z, z < n → firstB P n ≠ none := by
            intro z hz hz2
            exact absurd hz2 (by
              intro hq
              have h0 : ∃ y, y ≤ j ∧ P y = true ∧ ∀ x, x < y → P x = false := by
                have : ∀ b, b ≤ j → (∃ y, y ≤ b ∧ P y = true ∧ ∀ x, x < y → P x = false) ∨ ∀ x, x ≤ b → P x = false := by
                  intro b
                  induction b with
                  | zero =>
                    intro _
                    cases h1 : P 0 with
                    | true => exact Or.inl ⟨0, Nat.le_refl _, h1, fun x hx => absurd hx (Nat.not_lt_zero x)⟩
                    | false => exact Or.inr (fun x hx => by have : x = 0 := by omega
                                                            rw [this]; exact h1)
                  | succ b ih =>
                    intro hb
                    rcases ih (by omega) with ⟨y, a, c, d⟩ | r
                    · exact Or.inl ⟨y, by omega, c, d⟩
                    · cases h1 : P (b + 1) with
                      | true => exact Or.inl ⟨b + 1, Nat.le_refl _, h1, fun x hx => r x (by omega)⟩
                      | false => exact Or.inr (fun x hx => by
                          rcases Nat.lt_or_ge x (b + 1) with u | u
                          · exact r x (by omega)
                          · have : x = b + 1 := by omega
                            rw [this]; exact h1)
                rcases this j (Nat.le_refl _) with r | r
                · exact r
                · exact absurd hp (by rw [r j (Nat.le_refl _)]; decide)
              obtain ⟨y, a, c, d⟩ := h0
              rw [firstB_is d c (by omega)] at hq
              cases hq)
          exact this j hj q
      by_cases hP : P n = true
      · simp [hP] at h
        subst h
        exact ⟨by omega, hP, hn⟩
      · simp [hP] at h
def bP (m : Nat → Nat) (fp fr : Nat → Nat) (pl tk v : Nat) (i : Nat) : Bool := fits (fp i) pl tk && decide (fr i + m (tk ||| fp i) = v)
/-- the standing at the places of s -/
def mkP (pk : Nat → Option Nat) (s : Nat) (ix : Option Nat) : Nat → (Nat → Option Nat)
  | 0 => pk
  | p + 1 => if tb s p = true then va_up (mkP pk s ix p) p ix else mkP pk s ix p
def bfAt (M : Nat → Nat → Nat) (fp fr : Nat → Nat) (cnt i t : Nat) : Option Nat := firstB (bP (M (i + 1)) fp fr i t (M i t)) cnt
/-- the choice: what is taken, and by which standings, after i places -/
def chT (M : Nat → Nat → Nat) (fp fr : Nat → Nat) (cnt : Nat) : Nat → Nat
  | 0 => 0
  | i + 1 => if tb (chT M fp fr cnt i) i = true then chT M fp fr cnt i else match bfAt M fp fr cnt i (chT M fp fr cnt i) with
    | none => chT M fp fr cnt i
    | some x => chT M fp fr cnt i ||| fp x
def chP (M : Nat → Nat → Nat) (fp fr : Nat → Nat) (cnt : Nat) : Nat → (Nat → Option Nat)
  | 0 => fun _ => none
  | i + 1 => if tb (chT M fp fr cnt i) i = true then chP M fp fr cnt i else match bfAt M fp fr cnt i (chT M fp fr cnt i) with
    | none => chP M fp fr cnt i
    | some x => mkP (chP M fp fr cnt i) (fp x) (some x) 6
/-- rows of an array of arrays, at the addresses cr i -/
def g7 (cr : Nat → Nat) : Nat → Option Nat := fun i => if i < 7 then some (cr i) else none
theorem g7_at {cr : Nat → Nat} {i : Nat} (h : i < 7) : g7 cr i = some (cr i) := if_pos h
abbrev rows7 (κ : KK) (cr : Nat → Nat) (M : Nat → Nat → Nat) : va_W := [(cr 0, .inl (κ.2 0, 64, .inl (nA (M 0)))), (cr 1, .inl (κ.2 0, 64, .inl (nA (M 1)))), (cr 2, .inl (κ.2 0, 64, .inl (nA (M 2)))), (cr 3, .inl (κ.2 0, 64, .inl (nA (M 3)))), (cr 4, .inl (κ.2 0, 64, .inl (nA (M 4)))), (cr 5, .inl (κ.2 0, 64, .inl (nA (M 5)))), (cr 6, .inl (κ.2 0, 64, .inl (nA (M 6))))]
theorem row7 {κ : KK} {cr : Nat → Nat} {M : Nat → Nat → Nat} {X Y w : va_W} {b j : Nat} (hX : X.length = b) (hw : X ++ (rows7 κ cr M ++ Y) = w) (hj : j < 7) : w[b + j]? = some (cr j, .inl (κ.2 0, 64, .inl (nA (M j)))) := by
  subst hw; subst hX
  rw [List.getElem?_append_right (Nat.le_add_right _ _), Nat.add_sub_cancel_left]
  rcases (show j = 0 ∨ j = 1 ∨ j = 2 ∨ j = 3 ∨ j = 4 ∨ j = 5 ∨ j = 6 by omega) with e | e | e | e | e | e | e <;> subst e <;> rfl
theorem rowset7 {κ : KK} {cr : Nat → Nat} {M : Nat → Nat → Nat} {X Y w w' : va_W} {b j : Nat} {f : Nat → Nat} (hX : X.length = b) (hw : X ++ (rows7 κ cr M ++ Y) = w) (hw' : X ++ (rows7 κ cr (va_up M j f) ++ Y) = w') (hj : j < 7) : w.set (b + j) (cr j, .inl (κ.2 0, 64, .inl (nA f))) = w' := by
  subst hw; subst hw'; subst hX
  rw [List.set_append_right _ _ (Nat.le_add_right _ _), Nat.add_sub_cancel_left]
  congr 1
  rcases (show j = 0 ∨ j = 1 ∨ j = 2 ∨ j = 3 ∨ j = 4 ∨ j = 5 ∨ j = 6 by omega) with e | e | e | e | e | e | e <;> subst e <;> simp [va_up]
def tzm (s : Nat) : Nat := 2 ^ tz6 s - 1
theorem tzm_okA : ∀ x, x < 64 → (0 < x → (nI x ^^^ (-1)) &&& nI (x - 1) = nI (tzm x)) := by decide +kernel
theorem tzm_ok (x : Nat) (h0 : 0 < x) (h1 : x < 64) : (nI x ^^^ (-1)) &&& nI (x - 1) = nI (tzm x) := tzm_okA x h1 h0
theorem tzm_allA : ∀ x, x < 64 → (0 < x → (tzm x = 0 ∧ tz6 x = 0) ∨ (tzm x = 1 ∧ tz6 x = 1) ∨ (tzm x = 3 ∧ tz6 x = 2) ∨ (tzm x = 7 ∧ tz6 x = 3) ∨ (tzm x = 15 ∧ tz6 x = 4) ∨ (tzm x = 31 ∧ tz6 x = 5)) := by decide +kernel
theorem tzm_all (x : Nat) (h0 : 0 < x) (h1 : x < 64) : (tzm x = 0 ∧ tz6 x = 0) ∨ (tzm x = 1 ∧ tz6 x = 1) ∨ (tzm x = 3 ∧ tz6 x = 2) ∨ (tzm x = 7 ∧ tz6 x = 3) ∨ (tzm x = 15 ∧ tz6 x = 4) ∨ (tzm x = 31 ∧ tz6 x = 5) := tzm_allA x h1 h0
/-- how many places a set has -/
def bc6 (s : Nat) : Nat := s % 2 + s / 2 % 2 + s / 4 % 2 + s / 8 % 2 + s / 16 % 2 + s / 32 % 2
theorem tz6_lt : ∀ x, x < 64 → (0 < x → tz6 x < 6) := by decide +kernel
theorem tb_0 (p : Nat) : tb 0 p = false := by simp [tb]
theorem mkP_0 {pk : Nat → Option Nat} {ix : Option Nat} : ∀ n, mkP pk 0 ix n = pk
  | 0 => rfl
  | n + 1 => by rw [mkP, if_neg (by rw [tb_0]; decide), mkP_0 n]
theorem mkP_congr {pk pk' : Nat → Option Nat} {s : Nat} {ix : Option Nat} (h : ∀ j, j < 6 → pk j = pk' j) : ∀ n j, j < 6 → mkP pk s ix n j = mkP pk' s ix n j
  | 0, j, hj => h j hj
  | n + 1, j, hj => by
    simp only [mkP]
    split
    · by_cases e : j = n
      · subst e; simp [va_up]
      · simp only [va_up, if_neg e]; exact mkP_congr h n j hj
    · exact mkP_congr h n j hj
theorem lfN_congr {m m' : Nat → Nat} {fp fr : Nat → Nat} {cnt pl tk idl : Nat} (hm : ∀ u, u < 64 → m u = m' u) (hf : ∀ i, i < cnt → fp i < 64) (ht : tk < 64) : ∀ i, i ≤ cnt → lfN m fp fr pl tk idl i = lfN m' fp fr pl tk idl i
  | 0, _ => by simp only [lfN]; rw [hm tk ht]
  | i + 1, h => by
    simp only [lfN]
    rw [lfN_congr hm hf ht i (by omega), hm _ (or64 ht (hf i (by omega)))]
theorem lfR_congr {m m' : Nat → Nat} {fp fr : Nat → Nat} {cnt pl tk idl : Nat} (hm : ∀ u, u < 64 → m u = m' u) (hf : ∀ i, i < cnt → fp i < 64) (ht : tk < 64) : lfR m fp fr cnt pl tk idl = lfR m' fp fr cnt pl tk idl := by
  unfold lfR
  rw [hm tk ht, lfN_congr hm hf ht cnt (Nat.le_refl _)]
theorem down_0 {x : Int32} {j : Nat} (hx : x = nI j - 1) (c : x < 0) (hj : j ≤ 6) : j = 0 := by
  cases j with
  | zero => rfl
  | succ q =>
    exfalso
    rw [hx, nI_pred] at c
    exact nI_pos (by omega) c
theorem down_s {x : Int32} {j : Nat} (hx : x = nI j - 1) (c : ¬ x < 0) : ∃ q, j = q + 1 ∧ x = nI q := by
  cases j with
  | zero =>
    exfalso
    rw [hx] at c
    exact c (by decide)
  | succ q => exact ⟨q, rfl, by rw [hx, nI_pred]⟩
theorem weigh_s {M7 M8 : Nat → Nat → Nat} {fp fr : Nat → Nat} {cnt size bare pl idl t : Nat} (hF : FW cnt fp fr) (hpl : pl < 6) (ht : t < 64) (hoth : ∀ i, i ≠ pl → M7 i = M8 i) (hopt : ∀ k, k ≤ 6 - (pl + 1) → ∀ u, u < 64 → M8 (6 - k) u = optR fp fr cnt size bare k u) (hidl : idl = if pl < size then bare else 0) : lfR (M7 (pl + 1)) fp fr cnt pl t idl = optR fp fr cnt size bare (6 - pl) t := by
  have e : 6 - pl = (5 - pl) + 1 := by omega
  have e2 : 5 - (5 - pl) = pl := by omega
  rw [e, optR, e2, ← hidl]
  refine lfR_congr (fun u hu => ?_) (fun i hi => (hF.2 i hi).2.1) ht
  have h := hopt (5 - pl) (by omega) u hu
  rw [show 6 - (5 - pl) = pl + 1 by omega] at h
  rw [hoth (pl + 1) (by omega)]
  exact h
theorem weigh_o {M7 M8 : Nat → Nat → Nat} {fp fr : Nat → Nat} {cnt size bare pl : Nat} (hpl : pl < 6) (hoth : ∀ i, i ≠ pl → M7 i = M8 i) (hrow : ∀ u, u < 64 → M7 pl u = optR fp fr cnt size bare (6 - pl) u) (hopt : ∀ k, k ≤ 6 - (pl + 1) → ∀ u, u < 64 → M8 (6 - k) u = optR fp fr cnt size bare k u) : ∀ k, k ≤ 6 - pl → ∀ u, u < 64 → M7 (6 - k) u = optR fp fr cnt size bare k u := by
  intro k hk u hu
  by_cases e : k = 6 - pl
  · subst e
    rw [show 6 - (6 - pl) = pl by omega]
    exact hrow u hu
  · rw [hoth _ (by omega)]
    exact hopt k (by omega) u hu
theorem MW_up {M : Nat → Nat → Nat} (h : MW M) (pl t : Nat) {v : Nat} (hv : v ≤ 300) : MW (va_up M pl (va_up (M pl) t v)) := by
  intro i u
  by_cases e : i = pl
  · subst e
    simp only [va_up, if_true]
    by_cases e2 : u = t
    · simp [e2, hv]
    · simp [e2, h i u]
  · simp only [va_up, if_neg e]; exact h i u
section CH
variable {M : Nat → Nat → Nat} {fp fr : Nat → Nat} {cnt i : Nat}
theorem chT_t (h : tb (chT M fp fr cnt i) i = true) : chT M fp fr cnt (i + 1) = chT M fp fr cnt i := by rw [chT, if_pos h]
theorem chT_0 (h : ¬ tb (chT M fp fr cnt i) i = true) (ho : bfAt M fp fr cnt i (chT M fp fr cnt i) = none) : chT M fp fr cnt (i + 1) = chT M fp fr cnt i := by rw [chT, if_neg h, ho]
theorem chT_1 {x : Nat} (h : ¬ tb (chT M fp fr cnt i) i = true) (ho : bfAt M fp fr cnt i (chT M fp fr cnt i) = some x) : chT M fp fr cnt (i + 1) = chT M fp fr cnt i ||| fp x := by rw [chT, if_neg h, ho]
theorem chP_t (h : tb (chT M fp fr cnt i) i = true) : chP M fp fr cnt (i + 1) = chP M fp fr cnt i := by rw [chP, if_pos h]
theorem chP_0 (h : ¬ tb (chT M fp fr cnt i) i = true) (ho : bfAt M fp fr cnt i (chT M fp fr cnt i) = none) : chP M fp fr cnt (i + 1) = chP M fp fr cnt i := by rw [chP, if_neg h, ho]
theorem chP_1 {x : Nat} (h : ¬ tb (chT M fp fr cnt i) i = true) (ho : bfAt M fp fr cnt i (chT M fp fr cnt i) = some x) : chP M fp fr cnt (i + 1) = mkP (chP M fp fr cnt i) (fp x) (some x) 6 := by rw [chP, if_neg h, ho]
end CH
def RW (n : Nat) (fk fs : Nat → Nat) : Prop := n ≤ 6 ∧ (∀ i, fk i < 3) ∧ ∀ i, fs i ≤ 50
def SW (len : Nat) (fw : Nat → Nat) : Prop := len ≤ 6 ∧ ∀ i, fw i < 100
def PW (pn : Nat) (pa : Nat → Option Nat) : Prop := 1 ≤ pn ∧ pn ≤ 4 ∧ ∀ i h, pa i = some h → h < 100
theorem fmL_t {fk fs : Nat → Nat} {w h : Nat} : ∀ {n i : Nat}, i < n → fk i = h % 3 → w = h + fs i → fmL fk fs w h n = true
  | 0, i, hi, _, _ => absurd hi (Nat.not_lt_zero i)
  | n + 1, i, hi, h1, h2 => by
    rcases Nat.lt_or_ge i n with q | q
    · simp [fmL, fmL_t q h1 h2]
    · have e : i = n := by omega
      subst e
      simp [fmL, h1, h2]
theorem fm_t {n : Nat} {fk fs : Nat → Nat} {w h i : Nat} (hi : i < n) (h1 : fk i = h % 3) (h2 : w = h + fs i) : fm n fk fs w h = true := by simp [fm, fmL_t hi h1 h2]
/-- the phrase of pn parts, from the place f on: does it stand, by its first i parts; which places it takes -/
def phOk (n : Nat) (fk fs : Nat → Nat) (len : Nat) (fw : Nat → Nat) (pa : Nat → Option Nat) (f : Nat) : Nat → Bool
  | 0 => true
  | i + 1 => phOk n fk fs len fw pa f i && (match pa i with
    | none => true
    | some h => decide (f + i < len) && fm n fk fs (fw (f + i)) h)
def phSet (pa : Nat → Option Nat) (f : Nat) : Nat → Nat
  | 0 => 0
  | i + 1 => match pa i with
    | none => phSet pa f i
    | some _ => phSet pa f i ||| 2 ^ (f + i)
def phAt (n : Nat) (fk fs : Nat → Nat) (len : Nat) (fw : Nat → Nat) (pa : Nat → Option Nat) (pn f : Nat) : Nat := if phOk n fk fs len fw pa f pn = true then phSet pa f pn else 0
theorem phOk_f {n : Nat} {fk fs : Nat → Nat} {len : Nat} {fw : Nat → Nat} {pa : Nat → Option Nat} {f : Nat} : ∀ {pn i : Nat} {h : Nat}, i < pn → pa i = some h → (decide (f + i < len) && fm n fk fs (fw (f + i)) h) = false → phOk n fk fs len fw pa f pn = false
  | 0, i, _, hi, _, _ => absurd hi (Nat.not_lt_zero i)
  | pn + 1, i, h, hi, h1, h2 => by
    rcases Nat.lt_or_ge i pn with q | q
    · simp only [phOk, phOk_f q h1 h2, Bool.false_and]
    · have e : i = pn := by omega
      subst e
      simp only [phOk, h1, h2, Bool.and_false]
def phL (n : Nat) (fk fs : Nat → Nat) (len : Nat) (fw : Nat → Nat) (pa : Nat → Option Nat) (pn en pr : Nat) : Nat → SL
  | 0 => []
  | f + 1 => phL n fk fs len fw pa pn en pr f ++ (if phAt n fk fs len fw pa pn f = 0 then [] else [(en, phAt n fk fs len fw pa pn f, pr)])
def spB (n : Nat) (fk fs : Nat → Nat) (len : Nat) (fw : Nat → Nat) (en pr sec f : Nat) : Nat → SL
  | 0 => []
  | b + 1 => spB n fk fs len fw en pr sec f b ++ (if (decide (f + 1 + b < len) && fm n fk fs (fw (f + 1 + b)) sec) = true then [(en, 2 ^ f ||| 2 ^ (f + 1 + b), pr)] else [])
def spL (n : Nat) (fk fs : Nat → Nat) (len : Nat) (fw : Nat → Nat) (en pr fst sec rch : Nat) : Nat → SL
  | 0 => []
  | f + 1 => spL n fk fs len fw en pr fst sec rch f ++ (if (decide (f < len) && fm n fk fs (fw f) fst) = true then spB n fk fs len fw en pr sec f (rch + 1) else [])
/-- the first cnt places of the three rows hold the list -/
def stOK (L : SL) (cnt : Nat) (fn fp fr : Nat → Nat) : Prop := L.length = cnt ∧ ∀ (i : Nat) (x : Nat × Nat × Nat), L[i]? = some x → fn i = x.1 ∧ fp i = x.2.1 ∧ fr i = x.2.2
theorem stOK_0 {fn fp fr : Nat → Nat} : stOK [] 0 fn fp fr := ⟨rfl, fun i x h => by simp at h⟩
theorem stOK_put {L : SL} {cnt : Nat} {fn fp fr : Nat → Nat} (h : stOK L cnt fn fp fr) (en s v : Nat) : stOK (L ++ [(en, s, v)]) (cnt + 1) (va_up fn cnt en) (va_up fp cnt s) (va_up fr cnt v) := by
  obtain ⟨h1, h2⟩ := h
  refine ⟨by simp [h1], fun i x hx => ?_⟩
  rcases Nat.lt_or_ge i cnt with q | q
  · rw [List.getElem?_append_left (by omega)] at hx
    obtain ⟨a, b, c⟩ := h2 i x hx
    have hne : i ≠ cnt := by omega
    rw [va_up_ne _ _ hne, va_up_ne _ _ hne, va_up_ne _ _ hne]
    exact ⟨a, b, c⟩
  · have hi := (List.getElem?_eq_some_iff.mp hx).1
    have e : i = cnt := by simp at hi; omega
    subst e
    rw [List.getElem?_append_right (by omega), h1] at hx
    simp at hx
    subst hx
    simp [va_up]
theorem phL_len {n : Nat} {fk fs : Nat → Nat} {len : Nat} {fw : Nat → Nat} {pa : Nat → Option Nat} {pn en pr : Nat} : ∀ f, (phL n fk fs len fw pa pn en pr f).length ≤ f
  | 0 => Nat.le_refl _
  | f + 1 => by
    have h := phL_len (n := n) (fk := fk) (fs := fs) (len := len) (fw := fw) (pa := pa) (pn := pn) (en := en) (pr := pr) f
    simp only [phL, List.length_append]
    split <;> simp <;> omega
theorem spB_len {n : Nat} {fk fs : Nat → Nat} {len : Nat} {fw : Nat → Nat} {en pr sec f : Nat} (hl : len ≤ 6) : ∀ b, (spB n fk fs len fw en pr sec f b).length ≤ b ∧ (spB n fk fs len fw en pr sec f b).length ≤ 5 - f
  | 0 => ⟨Nat.le_refl _, Nat.zero_le _⟩
  | b + 1 => by
    obtain ⟨h1, h2⟩ := spB_len (n := n) (fk := fk) (fs := fs) (fw := fw) (en := en) (pr := pr) (sec := sec) (f := f) hl b
    simp only [spB, List.length_append]
    split
    · rename_i q
      simp only [Bool.and_eq_true, decide_eq_true_eq] at q
      simp only [List.length_cons, List.length_nil]
      omega
    · simp; omega
theorem spL_len {n : Nat} {fk fs : Nat → Nat} {len : Nat} {fw : Nat → Nat} {en pr fst sec rch : Nat} (hl : len ≤ 6) : ∀ f, f ≤ 6 → 2 * (spL n fk fs len fw en pr fst sec rch f).length ≤ f * (11 - f)
  | 0, _ => Nat.le_refl _
  | f + 1, hf => by
    have h := spL_len (n := n) (fk := fk) (fs := fs) (fw := fw) (en := en) (pr := pr) (fst := fst) (sec := sec) (rch := rch) hl f (by omega)
    have hb := (spB_len (n := n) (fk := fk) (fs := fs) (fw := fw) (en := en) (pr := pr) (sec := sec) (f := f) hl (rch + 1)).2
    simp only [spL, List.length_append]
    have hm : f * (11 - f) + 2 * (5 - f) ≤ (f + 1) * (11 - (f + 1)) := by
      rcases (show f = 0 ∨ f = 1 ∨ f = 2 ∨ f = 3 ∨ f = 4 ∨ f = 5 by omega) with e | e | e | e | e | e <;> subst e <;> decide
    split
    · omega
    · rw [List.length_nil]; omega
theorem sp_room {n : Nat} {fk fs : Nat → Nat} {len : Nat} {fw : Nat → Nat} {en pr fst sec rch f b : Nat} (hl : len ≤ 6) (h : f + 1 + b < len) : (spL n fk fs len fw en pr fst sec rch f).length + (spB n fk fs len fw en pr sec f b).length < 15 := by
  have h1 := spL_len (n := n) (fk := fk) (fs := fs) (fw := fw) (en := en) (pr := pr) (fst := fst) (sec := sec) (rch := rch) hl f (by omega)
  have h2 := (spB_len (n := n) (fk := fk) (fs := fs) (fw := fw) (en := en) (pr := pr) (sec := sec) (f := f) hl b).1
  rcases (show f = 0 ∨ f = 1 ∨ f = 2 ∨ f = 3 ∨ f = 4 by omega) with e | e | e | e | e <;> subst e <;> omega
theorem phSet_lt {pa : Nat → Option Nat} {f : Nat} {n : Nat} {fk fs : Nat → Nat} {len : Nat} {fw : Nat → Nat} (hl : len ≤ 6) : ∀ i, phOk n fk fs len fw pa f i = true → phSet pa f i < 64
  | 0, _ => by show 0 < 64; decide
  | i + 1, h => by
    simp only [phOk, Bool.and_eq_true] at h
    have h1 := phSet_lt hl i h.1
    simp only [phSet]
    cases hp : pa i with
    | none => exact h1
    | some v =>
      have h2 := h.2
      rw [hp] at h2
      simp only [Bool.and_eq_true, decide_eq_true_eq] at h2
      have h3 : 2 ^ (f + i) < 64 := by
        have : f + i ≤ 5 := by omega
        exact Nat.lt_of_le_of_lt (Nat.pow_le_pow_right (by decide) this) (by decide)
      exact Nat.or_lt_two_pow (n := 6) h1 h3
theorem phAt_lt {n : Nat} {fk fs : Nat → Nat} {len : Nat} {fw : Nat → Nat} {pa : Nat → Option Nat} {pn f : Nat} (hP : PW pn pa) (hS : SW len fw) (hR : RW n fk fs) (_ : f < 6) : phAt n fk fs len fw pa pn f < 64 := by
  unfold phAt
  split
  · rename_i q
    exact phSet_lt hS.1 pn q
  · decide
/-- the least change of the cost by standings of the list that leave t alone, and one another -/
def wt (bare : Nat) (x : Nat × Nat × Nat) : Int := (x.2.2 : Int) - ((bare * bc6 x.2.1 : Nat) : Int)
def dm (bare : Nat) : SL → Nat → Int
  | [], _ => 0
  | x :: xs, t => if x.2.1 &&& t = 0 then min (dm bare xs t) (wt bare x + dm bare xs (t ||| x.2.1)) else dm bare xs t
theorem dm_le (bare : Nat) : ∀ (L : SL) (t : Nat), dm bare L t ≤ 0
  | [], _ => by simp [dm]
  | x :: xs, t => by
    have h := dm_le bare xs t
    simp only [dm]
    split <;> omega
theorem bc6_le (s : Nat) : bc6 s ≤ 6 := by unfold bc6; omega
theorem wt_ge {bare : Nat} (hb : bare ≤ 50) (x : Nat × Nat × Nat) : -300 ≤ wt bare x := by
  have h := bc6_le x.2.1
  have h2 : bare * bc6 x.2.1 ≤ 50 * 6 := Nat.mul_le_mul hb h
  unfold wt
  omega
theorem dm_ge {bare : Nat} (hb : bare ≤ 50) : ∀ (L : SL) (t : Nat), -(300 * (L.length : Int)) ≤ dm bare L t
  | [], _ => by simp [dm]
  | x :: xs, t => by
    have h := dm_ge hb xs t
    have h2 := dm_ge hb xs (t ||| x.2.1)
    have h3 := wt_ge hb x
    simp only [dm, List.length_cons]
    split <;> omega
theorem bc6_orA : ∀ a, a < 64 → ∀ b, b < 64 → (b &&& a = 0 → bc6 (a ||| b) = bc6 a + bc6 b) := by decide +kernel
theorem bc6_posA : ∀ a, a < 64 → (0 < a → 0 < bc6 a) := by decide +kernel
theorem bc6_fullA : ∀ a, a < 64 → (6 ≤ bc6 a → a = 63) := by decide +kernel
theorem and63N : ∀ a, a < 64 → a &&& 63 = a := by decide +kernel
theorem dm_full {bare : Nat} : ∀ (L : SL), (∀ x, x ∈ L → 0 < x.2.1 ∧ x.2.1 < 64) → dm bare L 63 = 0
  | [], _ => rfl
  | x :: xs, h => by
    have h1 := h x List.mem_cons_self
    simp only [dm]
    rw [if_neg (by rw [and63N _ h1.2]; omega)]
    exact dm_full xs (fun y hy => h y (List.mem_cons_of_mem _ hy))
theorem nZ_sub (a b : Nat) : nI a - nI b = zI ((a : Int) - (b : Int)) := zI_sub a b
theorem stOK_at {L : SL} {cnt : Nat} {fn fp fr : Nat → Nat} (h : stOK L cnt fn fp fr) {i : Nat} (hi : i < cnt) : L.drop i = (fn i, fp i, fr i) :: L.drop (i + 1) := by
  have hi2 : i < L.length := by rw [h.1]; exact hi
  obtain ⟨a, b, c⟩ := h.2 i _ (List.getElem?_eq_getElem hi2)
  rw [List.drop_eq_getElem_cons hi2, a, b, c]
theorem stOK_all {L : SL} {cnt : Nat} {fn fp fr : Nat → Nat} (h : stOK L cnt fn fp fr) (hF : FW cnt fp fr) : ∀ x, x ∈ L → 0 < x.2.1 ∧ x.2.1 < 64 := by
  intro x hx
  obtain ⟨i, hi⟩ := List.getElem?_of_mem hx
  have hi2 := (List.getElem?_eq_some_iff.mp hi).1
  obtain ⟨-, b, -⟩ := h.2 i x hi
  have := hF.2 i (by rw [← h.1]; exact hi2)
  rw [← b]
  exact ⟨this.1, this.2.1⟩
def g3 (cr : Nat → Nat) : Nat → Option Nat := fun i => if i < 3 then some (cr i) else none
theorem g3_at {cr : Nat → Nat} {i : Nat} (h : i < 3) : g3 cr i = some (cr i) := if_pos h
abbrev rows3 (κ : KK) (cr : Nat → Nat) (M : Nat → Nat → Nat) : va_W := [(cr 0, .inl (κ.2 0, 8, .inl (nA (M 0)))), (cr 1, .inl (κ.2 0, 8, .inl (nA (M 1)))), (cr 2, .inl (κ.2 0, 8, .inl (nA (M 2))))]
theorem row3 {κ : KK} {cr : Nat → Nat} {M : Nat → Nat → Nat} {X Y w : va_W} {b j : Nat} (hX : X.length = b) (hw : X ++ (rows3 κ cr M ++ Y) = w) (hj : j < 3) : w[b + j]? = some (cr j, .inl (κ.2 0, 8, .inl (nA (M j)))) := by
  subst hw; subst hX
  rw [List.getElem?_append_right (Nat.le_add_right _ _), Nat.add_sub_cancel_left]
  rcases (show j = 0 ∨ j = 1 ∨ j = 2 by omega) with e | e | e <;> subst e <;> rfl
theorem rowset3 {κ : KK} {cr : Nat → Nat} {M : Nat → Nat → Nat} {X Y w w' : va_W} {b j : Nat} {f : Nat → Nat} (hX : X.length = b) (hw : X ++ (rows3 κ cr M ++ Y) = w) (hw' : X ++ (rows3 κ cr (va_up M j f) ++ Y) = w') (hj : j < 3) : w.set (b + j) (cr j, .inl (κ.2 0, 8, .inl (nA f))) = w' := by
  subst hw; subst hw'; subst hX
  rw [List.set_append_right _ _ (Nat.le_add_right _ _), Nat.add_sub_cancel_left]
  congr 1
  rcases (show j = 0 ∨ j = 1 ∨ j = 2 by omega) with e | e | e <;> subst e <;> simp [va_up]
def KW (iv dv : Nat → Nat → Nat) : Prop := ∀ r e, iv r e ≤ 64 ∧ dv r e < 2 ^ 30
/-- how many of the first cards there are -/
def ctC (f : Nat → Nat) : Nat → Nat
  | 0 => 0
  | e + 1 => ctC f e + (if 0 < f e then 1 else 0)
/-- the first card that is due first -/
def fsC (f d : Nat → Nat) : Nat → Option Nat
  | 0 => none
  | e + 1 => match fsC f d e with
    | none => if 0 < f e then some e else none
    | some x => if 0 < f e ∧ d e < d x then some e else some x
theorem ctC_le (f : Nat → Nat) : ∀ n, ctC f n ≤ n
  | 0 => Nat.le_refl _
  | n + 1 => by have h := ctC_le f n; simp only [ctC]; split <;> omega
theorem fsC_lt {f d : Nat → Nat} : ∀ {n x : Nat}, fsC f d n = some x → x < n
  | 0, x, h => by simp [fsC] at h
  | n + 1, x, h => by
    unfold fsC at h
    cases q : fsC f d n with
    | none =>
      rw [q] at h
      simp only at h
      split at h
      · have : n = x := Option.some.inj h
        omega
      · cases h
    | some y =>
      rw [q] at h
      simp only at h
      have hy := fsC_lt q
      split at h
      · have : n = x := Option.some.inj h
        omega
      · have : y = x := Option.some.inj h
        omega
