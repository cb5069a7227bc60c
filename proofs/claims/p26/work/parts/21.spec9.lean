/-! ===== the entries' cells, and the standings of all entries ===== -/
def og (o : Option Nat) : Nat := o.getD 0
/-- the cells of the entry e: a phrase (no reach) and its parts, or a split one -/
def ewL (κ : KK) (rc : Nat → Option Nat) (ck pm : Nat → Nat) (ep : Nat → Nat → Option Nat) (ea eb : Nat → Nat) (e : Nat) : va_W := match rc e with
  | none => [(ea e, .inr (2, [.int (nI (ck e)), .ref (eb e)])), (eb e, .inl (κ.2 0, pm e, .inl (oA (ep e))))]
  | some r => [(ea e, .inr (5, [.int (nI (ck e)), .int (nI (og (ep e 0))), .int (nI (og (ep e 1))), .int (nI r)]))]
def esL (κ : KK) (rc : Nat → Option Nat) (ck pm : Nat → Nat) (ep : Nat → Nat → Option Nat) (ea eb : Nat → Nat) (mc : Nat) : va_W := (List.range mc).flatMap (ewL κ rc ck pm ep ea eb)
theorem es_cut {κ : KK} {rc : Nat → Option Nat} {ck pm : Nat → Nat} {ep : Nat → Nat → Option Nat} {ea eb : Nat → Nat} {mc e : Nat} (h : e < mc) : ∃ rest, (esL κ rc ck pm ep ea eb mc).Perm (rest ++ ewL κ rc ck pm ep ea eb e) := by
  refine ⟨((List.range mc).erase e).flatMap (ewL κ rc ck pm ep ea eb), ?_⟩
  have h1 : (List.range mc).Perm (e :: (List.range mc).erase e) := List.perm_cons_erase (List.mem_range.mpr h)
  exact (h1.flatMap_right _).trans List.perm_append_comm
theorem pm_cut {X R C es rest w : va_W} (h1 : X.Perm (R ++ C)) (h2 : es.Perm (rest ++ w)) : (X ++ es).Perm ((R ++ rest) ++ (w ++ C)) := by
  refine (h1.append h2).trans ?_
  rw [List.append_assoc, List.append_assoc]
  refine List.Perm.append_left R ?_
  refine List.perm_append_comm.trans ?_
  rw [List.append_assoc]
def stE (n : Nat) (fk fs : Nat → Nat) (len : Nat) (fw : Nat → Nat) (rc : Nat → Option Nat) (ck pm : Nat → Nat) (ep : Nat → Nat → Option Nat) (e : Nat) : SL := match rc e with
  | none => phL n fk fs len fw (ep e) (pm e) e (ck e) 6
  | some r => spL n fk fs len fw e (ck e) (og (ep e 0)) (og (ep e 1)) r 6
def stN (n : Nat) (fk fs : Nat → Nat) (len : Nat) (fw : Nat → Nat) (rc : Nat → Option Nat) (ck pm : Nat → Nat) (ep : Nat → Nat → Option Nat) (th : Nat → Bool) : Nat → SL
  | 0 => []
  | e + 1 => stN n fk fs len fw rc ck pm ep th e ++ (if th e = true then stE n fk fs len fw rc ck pm ep e else [])
/-- the entries are as they may be -/
def EW (mc : Nat) (rc : Nat → Option Nat) (ck pm : Nat → Nat) (ep : Nat → Nat → Option Nat) : Prop := ∀ e, e < mc → ck e ≤ 20 ∧ match rc e with
  | none => PW (pm e) (ep e) ∧ ep e 0 ≠ none ∧ ep e (pm e - 1) ≠ none
  | some r => og (ep e 0) < 100 ∧ og (ep e 1) < 100 ∧ r ≤ 4
section ST9
variable {n : Nat} {fk fs : Nat → Nat} {len : Nat} {fw : Nat → Nat}
theorem EW.ph {mc : Nat} {rc : Nat → Option Nat} {ck pm : Nat → Nat} {ep : Nat → Nat → Option Nat} (h : EW mc rc ck pm ep) {e : Nat} (he : e < mc) (hr : rc e = none) : PW (pm e) (ep e) ∧ ep e 0 ≠ none ∧ ep e (pm e - 1) ≠ none := by
  have := (h e he).2
  rw [hr] at this
  exact this
theorem EW.sp {mc : Nat} {rc : Nat → Option Nat} {ck pm : Nat → Nat} {ep : Nat → Nat → Option Nat} (h : EW mc rc ck pm ep) {e r : Nat} (he : e < mc) (hr : rc e = some r) : og (ep e 0) < 100 ∧ og (ep e 1) < 100 ∧ r ≤ 4 := by
  have := (h e he).2
  rw [hr] at this
  exact this
theorem phL_mem {pa : Nat → Option Nat} {pn en pr : Nat} {x : Nat × Nat × Nat} : ∀ {f : Nat}, x ∈ phL n fk fs len fw pa pn en pr f ↔ ∃ g, g < f ∧ phAt n fk fs len fw pa pn g ≠ 0 ∧ x = (en, phAt n fk fs len fw pa pn g, pr)
  | 0 => ⟨(fun h => by cases h), (fun ⟨g, h, _⟩ => absurd h (Nat.not_lt_zero g))⟩
  | f + 1 => by
    rw [phL, List.mem_append, phL_mem (f := f)]
    constructor
    · rintro (⟨g, h1, h2⟩ | h)
      · exact ⟨g, by omega, h2⟩
      · split at h
        · cases h
        · rw [List.mem_singleton] at h
          exact ⟨f, by omega, by assumption, h⟩
    · rintro ⟨g, h1, h2, h3⟩
      by_cases e : g = f
      · subst e
        exact Or.inr (by rw [if_neg h2, h3]; exact List.mem_singleton.mpr rfl)
      · exact Or.inl ⟨g, by omega, h2, h3⟩
theorem spB_mem {en pr sec f : Nat} {x : Nat × Nat × Nat} : ∀ {b : Nat}, x ∈ spB n fk fs len fw en pr sec f b ↔ ∃ c, c < b ∧ (f + 1 + c < len ∧ fm n fk fs (fw (f + 1 + c)) sec = true) ∧ x = (en, 2 ^ f ||| 2 ^ (f + 1 + c), pr)
  | 0 => ⟨(fun h => by cases h), (fun ⟨g, h, _⟩ => absurd h (Nat.not_lt_zero g))⟩
  | b + 1 => by
    rw [spB, List.mem_append, spB_mem (b := b)]
    constructor
    · rintro (⟨g, h1, h2⟩ | h)
      · exact ⟨g, by omega, h2⟩
      · split at h
        · rename_i q
          rw [List.mem_singleton] at h
          exact ⟨b, by omega, by simpa using q, h⟩
        · cases h
    · rintro ⟨g, h1, h2, h3⟩
      by_cases e : g = b
      · subst e
        exact Or.inr (by rw [if_pos (by simpa using h2), h3]; exact List.mem_singleton.mpr rfl)
      · exact Or.inl ⟨g, by omega, h2, h3⟩
theorem spL_mem {en pr fst sec rch : Nat} {x : Nat × Nat × Nat} : ∀ {f : Nat}, x ∈ spL n fk fs len fw en pr fst sec rch f ↔ ∃ g, g < f ∧ (g < len ∧ fm n fk fs (fw g) fst = true) ∧ x ∈ spB n fk fs len fw en pr sec g (rch + 1)
  | 0 => ⟨(fun h => by cases h), (fun ⟨g, h, _⟩ => absurd h (Nat.not_lt_zero g))⟩
  | f + 1 => by
    rw [spL, List.mem_append, spL_mem (f := f)]
    constructor
    · rintro (⟨g, h1, h2⟩ | h)
      · exact ⟨g, by omega, h2⟩
      · split at h
        · rename_i q
          exact ⟨f, by omega, by simpa using q, h⟩
        · cases h
    · rintro ⟨g, h1, h2, h3⟩
      by_cases e : g = f
      · subst e
        exact Or.inr (by rw [if_pos (by simpa using h2)]; exact h3)
      · exact Or.inl ⟨g, by omega, h2, h3⟩
theorem or_pos_l {a b : Nat} (h : 0 < a) : 0 < a ||| b := Nat.lt_of_lt_of_le h Nat.left_le_or
theorem pow_lt64 {i : Nat} (h : i < 6) : 2 ^ i < 64 := Nat.lt_of_le_of_lt (Nat.pow_le_pow_right (by decide) (show i ≤ 5 by omega)) (by decide)
theorem stE_ok {rc : Nat → Option Nat} {ck pm : Nat → Nat} {ep : Nat → Nat → Option Nat} {mc e : Nat} (hS : SW len fw) (hE : EW mc rc ck pm ep) (he : e < mc) : ∀ x ∈ stE n fk fs len fw rc ck pm ep e, x.1 = e ∧ 0 < x.2.1 ∧ x.2.1 < 64 ∧ x.2.2 ≤ 20 := by
  intro x hx
  unfold stE at hx
  have hc := (hE e he).1
  cases hr : rc e with
  | none =>
    rw [hr] at hx
    obtain ⟨g, h1, h2, rfl⟩ := phL_mem.mp hx
    refine ⟨rfl, Nat.pos_of_ne_zero h2, ?_, hc⟩
    show phAt n fk fs len fw (ep e) (pm e) g < 64
    unfold phAt
    split
    · rename_i q
      exact phSet_lt hS.1 _ q
    · decide
  | some r =>
    rw [hr] at hx
    obtain ⟨g, h1, h2, h3⟩ := spL_mem.mp hx
    obtain ⟨c, h4, h5, rfl⟩ := spB_mem.mp h3
    have := hS.1
    exact ⟨rfl, or_pos_l (Nat.two_pow_pos g), or64 (pow_lt64 h1) (pow_lt64 (by omega)), hc⟩
theorem stE_len {rc : Nat → Option Nat} {ck pm : Nat → Nat} {ep : Nat → Nat → Option Nat} {e : Nat} (hl : len ≤ 6) : (stE n fk fs len fw rc ck pm ep e).length ≤ 15 := by
  unfold stE
  cases hr : rc e with
  | none => exact Nat.le_trans (phL_len 6) (by decide)
  | some r =>
    have h := spL_len (n := n) (fk := fk) (fs := fs) (fw := fw) (en := e) (pr := ck e) (fst := og (ep e 0)) (sec := og (ep e 1)) (rch := r) hl 6 (Nat.le_refl 6)
    show (spL n fk fs len fw e (ck e) (og (ep e 0)) (og (ep e 1)) r 6).length ≤ 15
    omega
theorem stN_len {rc : Nat → Option Nat} {ck pm : Nat → Nat} {ep : Nat → Nat → Option Nat} {th : Nat → Bool} (hl : len ≤ 6) : ∀ k, (stN n fk fs len fw rc ck pm ep th k).length ≤ 15 * k
  | 0 => Nat.le_refl _
  | k + 1 => by
    have h := stN_len (rc := rc) (ck := ck) (pm := pm) (ep := ep) (th := th) hl k
    have h2 := stE_len (n := n) (fk := fk) (fs := fs) (fw := fw) (rc := rc) (ck := ck) (pm := pm) (ep := ep) (e := k) hl
    simp only [stN, List.length_append]
    split
    · omega
    · rw [List.length_nil]; omega
theorem stN_ok {rc : Nat → Option Nat} {ck pm : Nat → Nat} {ep : Nat → Nat → Option Nat} {th : Nat → Bool} {mc : Nat} (hS : SW len fw) (hE : EW mc rc ck pm ep) (hth : ∀ e, th e = true → e < mc) : ∀ k x, x ∈ stN n fk fs len fw rc ck pm ep th k → x.1 < mc ∧ 0 < x.2.1 ∧ x.2.1 < 64 ∧ x.2.2 ≤ 20
  | 0, x, h => by cases h
  | k + 1, x, h => by
    rw [stN, List.mem_append] at h
    rcases h with h | h
    · exact stN_ok hS hE hth k x h
    · split at h
      · rename_i q
        obtain ⟨a, b, c, d⟩ := stE_ok hS hE (hth k q) x h
        exact ⟨by rw [a]; exact hth k q, b, c, d⟩
      · cases h
theorem stOK_get {L : SL} {cnt : Nat} {fn fp fr : Nat → Nat} (h : stOK L cnt fn fp fr) {i : Nat} (hi : i < cnt) : (fn i, fp i, fr i) ∈ L ∧ L[i]? = some (fn i, fp i, fr i) := by
  have hi2 : i < L.length := by rw [h.1]; exact hi
  obtain ⟨a, b, c⟩ := h.2 i _ (List.getElem?_eq_getElem hi2)
  rw [a, b, c]
  exact ⟨List.getElem_mem hi2, List.getElem?_eq_getElem hi2⟩
theorem FW_of {L : SL} {cnt : Nat} {fn fp fr : Nat → Nat} (h : stOK L cnt fn fp fr) (hl : L.length ≤ 120) (hx : ∀ x ∈ L, 0 < x.2.1 ∧ x.2.1 < 64 ∧ x.2.2 ≤ 20) : FW cnt fp fr :=
  ⟨by rw [← h.1]; exact hl, fun _ hi => hx _ (stOK_get h hi).1⟩
end ST9
theorem mkP_some {pk : Nat → Option Nat} {s : Nat} {ix : Option Nat} : ∀ {n j : Nat}, mkP pk s ix n j = pk j ∨ mkP pk s ix n j = ix
  | 0, _ => Or.inl rfl
  | n + 1, j => by
    simp only [mkP]
    split
    · simp only [va_up]
      split
      · exact Or.inr rfl
      · exact mkP_some
    · exact mkP_some
theorem chP_lt {M : Nat → Nat → Nat} {fp fr : Nat → Nat} {cnt : Nat} : ∀ {i j x : Nat}, chP M fp fr cnt i j = some x → x < cnt
  | 0, j, x, h => by cases h
  | i + 1, j, x, h => by
    by_cases ht : tb (chT M fp fr cnt i) i = true
    · rw [chP_t ht] at h
      exact chP_lt h
    · cases hb : bfAt M fp fr cnt i (chT M fp fr cnt i) with
      | none =>
        rw [chP_0 ht hb] at h
        exact chP_lt h
      | some y =>
        rw [chP_1 ht hb] at h
        rcases mkP_some (pk := chP M fp fr cnt i) (s := fp y) (ix := some y) (n := 6) (j := j) with q | q
        · rw [q] at h; exact chP_lt h
        · rw [q] at h
          cases h
          exact (firstB_some hb).1
/-- does the entry e stand at the place j of the cover; in the cover -/
def inP (fn : Nat → Nat) (pk : Nat → Option Nat) (e : Nat) (j : Nat) : Bool := match pk j with
  | none => false
  | some x => decide (fn x = e)
def inC (fn : Nat → Nat) (pk : Nat → Option Nat) (e : Nat) : Bool := inP fn pk e 0 || inP fn pk e 1 || inP fn pk e 2 || inP fn pk e 3 || inP fn pk e 4 || inP fn pk e 5
theorem inC_t {fn : Nat → Nat} {pk : Nat → Option Nat} {e j : Nat} (hj : j < 6) (h : inP fn pk e j = true) : inC fn pk e = true := by
  unfold inC
  rcases (show j = 0 ∨ j = 1 ∨ j = 2 ∨ j = 3 ∨ j = 4 ∨ j = 5 by omega) with q | q | q | q | q | q <;> subst q <;> simp [h]
theorem inC_f {fn : Nat → Nat} {pk : Nat → Option Nat} {e : Nat} (h : ∀ j, j < 6 → inP fn pk e j = false) : inC fn pk e = false := by
  unfold inC
  simp [h 0, h 1, h 2, h 3, h 4, h 5]
