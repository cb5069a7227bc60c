/-! ===== the standings as the reference finds them, and as the class does ===== -/
/-- the second lowest place of a set -/
def nx6 (s : Nat) : Nat := tz6 (s - 2 ^ tz6 s)
def phF (n : Nat) (fk fs fw : Nat → Nat) (pa : Nat → Option Nat) (f : Nat) : Nat → Bool
  | 0 => true
  | k + 1 => phF n fk fs fw pa f k && (match pa k with
    | none => true
    | some h => fm n fk fs (fw (f + k)) h)
/-- does an entry stand in just this set of places -/
def stS (n : Nat) (fk fs : Nat → Nat) (len : Nat) (fw : Nat → Nat) (r : Option Nat) (m : Nat) (pa : Nat → Option Nat) (s : Nat) : Bool := match r with
  | none => decide (tz6 s + m ≤ len) && (phF n fk fs fw pa (tz6 s) m && decide (phSet pa (tz6 s) m = s))
  | some q => (decide (nx6 s < len) && (decide (s = 2 ^ tz6 s ||| 2 ^ nx6 s) && decide (nx6 s - tz6 s - 1 ≤ q))) && (fm n fk fs (fw (tz6 s)) (og (pa 0)) && fm n fk fs (fw (nx6 s)) (og (pa 1)))
def smE (P : Nat → Bool) (k : Nat) : List Nat := (List.range k).filter (fun s => decide (0 < s) && P s)
theorem smE_s (P : Nat → Bool) (k : Nat) : smE P (k + 1) = smE P k ++ (if (decide (0 < k) && P k) = true then [k] else []) := by
  unfold smE
  rw [List.range_succ, List.filter_append]
  congr 1
  cases h : (decide (0 < k) && P k) with
  | true => simp [h]
  | false => simp [h]
def smL (n : Nat) (fk fs : Nat → Nat) (len : Nat) (fw : Nat → Nat) (rc : Nat → Option Nat) (ck pm : Nat → Nat) (ep : Nat → Nat → Option Nat) (e : Nat) : SL := (smE (stS n fk fs len fw (rc e) (pm e) (ep e)) (2 ^ len)).map (fun s => (e, s, ck e))
def smN (n : Nat) (fk fs : Nat → Nat) (len : Nat) (fw : Nat → Nat) (rc : Nat → Option Nat) (ck pm : Nat → Nat) (ep : Nat → Nat → Option Nat) (th : Nat → Bool) : Nat → SL
  | 0 => []
  | e + 1 => smN n fk fs len fw rc ck pm ep th e ++ (if th e = true then smL n fk fs len fw rc ck pm ep e else [])
theorem sorted_ext : ∀ {a b : List Nat}, a.Pairwise (· < ·) → b.Pairwise (· < ·) → (∀ x, x ∈ a ↔ x ∈ b) → a = b
  | [], [], _, _, _ => rfl
  | [], y :: ys, _, _, h => absurd ((h y).mpr List.mem_cons_self) List.not_mem_nil
  | x :: xs, [], _, _, h => absurd ((h x).mp List.mem_cons_self) List.not_mem_nil
  | x :: xs, y :: ys, ha, hb, h => by
    rw [List.pairwise_cons] at ha hb
    have e : x = y := by
      rcases List.mem_cons.mp ((h x).mp List.mem_cons_self) with q | q
      · exact q
      · have h1 := hb.1 x q
        rcases List.mem_cons.mp ((h y).mpr List.mem_cons_self) with r | r
        · exact r.symm
        · have h2 := ha.1 y r
          omega
    subst e
    congr 1
    refine sorted_ext ha.2 hb.2 (fun z => ⟨fun hz => ?_, fun hz => ?_⟩)
    · have h1 := ha.1 z hz
      rcases List.mem_cons.mp ((h z).mp (List.mem_cons_of_mem _ hz)) with q | q
      · omega
      · exact q
    · have h1 := hb.1 z hz
      rcases List.mem_cons.mp ((h z).mpr (List.mem_cons_of_mem _ hz)) with q | q
      · omega
      · exact q
theorem smE_sorted (P : Nat → Bool) (k : Nat) : (smE P k).Pairwise (· < ·) := List.Pairwise.filter _ List.pairwise_lt_range
theorem smE_mem {P : Nat → Bool} {k s : Nat} : s ∈ smE P k ↔ s < k ∧ 0 < s ∧ P s = true := by
  unfold smE
  rw [List.mem_filter, List.mem_range, Bool.and_eq_true, decide_eq_true_eq]
/-- the standings that begin at a place -/
def fz (p : Nat) (L : SL) : SL := L.filter (fun x => decide (tz6 x.2.1 = p))
theorem fz_app (p : Nat) (a b : SL) : fz p (a ++ b) = fz p a ++ fz p b := List.filter_append ..
theorem fz_map {p e c : Nat} (S : List Nat) : fz p (S.map (fun s => (e, s, c))) = (S.filter (fun s => decide (tz6 s = p))).map (fun s => (e, s, c)) := by
  unfold fz
  rw [List.filter_map]
  rfl
section EQ
variable {n : Nat} {fk fs : Nat → Nat} {len : Nat} {fw : Nat → Nat}
theorem phF_of {pa : Nat → Option Nat} {f : Nat} : ∀ {k : Nat}, phOk n fk fs len fw pa f k = true → phF n fk fs fw pa f k = true
  | 0, _ => rfl
  | k + 1, h => by
    simp only [phOk, Bool.and_eq_true] at h
    simp only [phF, Bool.and_eq_true]
    refine ⟨phF_of h.1, ?_⟩
    have h2 := h.2
    cases q : pa k with
    | none => rfl
    | some v =>
      rw [q] at h2
      simp only [Bool.and_eq_true] at h2
      exact h2.2
theorem phOk_of {pa : Nat → Option Nat} {f : Nat} : ∀ {k : Nat}, f + k ≤ len → phF n fk fs fw pa f k = true → phOk n fk fs len fw pa f k = true
  | 0, _, _ => rfl
  | k + 1, hl, h => by
    simp only [phF, Bool.and_eq_true] at h
    simp only [phOk, Bool.and_eq_true]
    refine ⟨phOk_of (by omega) h.1, ?_⟩
    have h2 := h.2
    cases q : pa k with
    | none => rfl
    | some v =>
      rw [q] at h2
      simp only [Bool.and_eq_true, decide_eq_true_eq]
      exact ⟨by omega, h2⟩
theorem phOk_last {pa : Nat → Option Nat} {f : Nat} : ∀ {m : Nat}, 1 ≤ m → pa (m - 1) ≠ none → phOk n fk fs len fw pa f m = true → f + m ≤ len
  | 0, h, _, _ => by omega
  | m + 1, _, hl, h => by
    simp only [phOk, Bool.and_eq_true] at h
    have h2 := h.2
    cases q : pa m with
    | none => exact absurd q hl
    | some v =>
      rw [q] at h2
      simp only [Bool.and_eq_true, decide_eq_true_eq] at h2
      omega
theorem phSet_ltL {pa : Nat → Option Nat} {f : Nat} : ∀ i, phOk n fk fs len fw pa f i = true → phSet pa f i < 2 ^ len
  | 0, _ => Nat.two_pow_pos len
  | i + 1, h => by
    simp only [phOk, Bool.and_eq_true] at h
    have h1 := phSet_ltL i h.1
    simp only [phSet]
    cases hp : pa i with
    | none => exact h1
    | some v =>
      have h2 := h.2
      rw [hp] at h2
      simp only [Bool.and_eq_true, decide_eq_true_eq] at h2
      exact Nat.or_lt_two_pow h1 (Nat.pow_lt_pow_right (by decide) h2.1)
theorem phSet_tz {pa : Nat → Option Nat} {f m : Nat} (h1 : 1 ≤ m) (h4 : m ≤ 4) (h0 : pa 0 ≠ none) (hf : f + m ≤ 6) : tz6 (phSet pa f m) = f := by
  obtain ⟨v0, e0⟩ := Option.ne_none_iff_exists'.mp h0
  have hf2 : f = 0 ∨ f = 1 ∨ f = 2 ∨ f = 3 ∨ f = 4 ∨ f = 5 := by omega
  have hm : m = 1 ∨ m = 2 ∨ m = 3 ∨ m = 4 := by omega
  rcases hm with e | e | e | e <;> subst e
  · rcases hf2 with e | e | e | e | e | e <;> subst e <;> simp only [phSet, e0] <;> decide
  · cases e1 : pa 1 <;> rcases hf2 with e | e | e | e | e | e <;> subst e <;> simp only [phSet, e0, e1] <;> first | decide | omega
  · cases e1 : pa 1 <;> cases e2 : pa 2 <;> rcases hf2 with e | e | e | e | e | e <;> subst e <;> simp only [phSet, e0, e1, e2] <;> first | decide | omega
  · cases e1 : pa 1 <;> cases e2 : pa 2 <;> cases e3 : pa 3 <;> rcases hf2 with e | e | e | e | e | e <;> subst e <;> simp only [phSet, e0, e1, e2, e3] <;> first | decide | omega
theorem phSet_pos {pa : Nat → Option Nat} {f : Nat} (h0 : pa 0 ≠ none) : ∀ {m : Nat}, 1 ≤ m → 0 < phSet pa f m
  | 0, h => by omega
  | 1, _ => by
    obtain ⟨v0, e0⟩ := Option.ne_none_iff_exists'.mp h0
    simp only [phSet, e0, Nat.zero_or]
    exact Nat.two_pow_pos _
  | m + 2, _ => by
    have h := phSet_pos (f := f) h0 (m := m + 1) (by omega)
    rw [phSet]
    split
    · exact h
    · exact or_pos_l h
/-- a phrase's standing at a place, as the reference says it -/
theorem ph_same {pa : Nat → Option Nat} {m p s : Nat} (hl : len ≤ 6) (hP : 1 ≤ m ∧ m ≤ 4) (h0 : pa 0 ≠ none) (hm : pa (m - 1) ≠ none) : (phAt n fk fs len fw pa m p ≠ 0 ∧ s = phAt n fk fs len fw pa m p) ↔ (s < 2 ^ len ∧ 0 < s ∧ stS n fk fs len fw none m pa s = true) ∧ tz6 s = p := by
  constructor
  · rintro ⟨h, rfl⟩
    unfold phAt at h ⊢
    split at h
    · rename_i q
      rw [if_pos q]
      have hle := phOk_last hP.1 hm q
      have htz := phSet_tz hP.1 hP.2 h0 (f := p) (by omega)
      refine ⟨⟨phSet_ltL _ q, Nat.pos_of_ne_zero h, ?_⟩, htz⟩
      unfold stS
      simp only [htz, Bool.and_eq_true, decide_eq_true_eq]
      exact ⟨hle, phF_of q, trivial⟩
    · exact absurd rfl h
  · rintro ⟨⟨h1, h2, h3⟩, h4⟩
    unfold stS at h3
    simp only [h4, Bool.and_eq_true, decide_eq_true_eq] at h3
    obtain ⟨a, b, c⟩ := h3
    have q := phOk_of a b
    unfold phAt
    rw [if_pos q, c]
    exact ⟨by omega, rfl⟩
def spS (n : Nat) (fk fs : Nat → Nat) (len : Nat) (fw : Nat → Nat) (sec f : Nat) : Nat → List Nat
  | 0 => []
  | b + 1 => spS n fk fs len fw sec f b ++ (if (decide (f + 1 + b < len) && fm n fk fs (fw (f + 1 + b)) sec) = true then [2 ^ f ||| 2 ^ (f + 1 + b)] else [])
theorem spB_map {en pr sec f : Nat} : ∀ b, spB n fk fs len fw en pr sec f b = (spS n fk fs len fw sec f b).map (fun s => (en, s, pr))
  | 0 => rfl
  | b + 1 => by
    rw [spB, spS, spB_map b, List.map_append]
    congr 1
    split <;> rfl
theorem spS_mem {sec f s : Nat} : ∀ {b : Nat}, s ∈ spS n fk fs len fw sec f b ↔ ∃ c, c < b ∧ (f + 1 + c < len ∧ fm n fk fs (fw (f + 1 + c)) sec = true) ∧ s = 2 ^ f ||| 2 ^ (f + 1 + c)
  | 0 => ⟨(fun h => by cases h), (fun ⟨g, h, _⟩ => absurd h (Nat.not_lt_zero g))⟩
  | b + 1 => by
    rw [spS, List.mem_append, spS_mem (b := b)]
    constructor
    · rintro (⟨g, h1, h2⟩ | h)
      · exact ⟨g, by omega, h2⟩
      · split at h
        · rename_i q
          rw [List.mem_singleton] at h
          exact ⟨b, by omega, by simpa using q, h⟩
        · cases h
    · rintro ⟨g, h1, h2, h3⟩
      by_cases e : g = b
      · subst e
        exact Or.inr (by rw [if_pos (by simpa using h2), h3]; exact List.mem_singleton.mpr rfl)
      · exact Or.inl ⟨g, by omega, h2, h3⟩
theorem two_lt : ∀ a, a < 6 → ∀ c, c < 6 → ∀ b, b < 6 → (c < b → 2 ^ a ||| 2 ^ (a + 1 + c) < 2 ^ a ||| 2 ^ (a + 1 + b)) := by decide +kernel
theorem two_tz : ∀ a, a < 6 → ∀ b, b < 6 → (a < b → tz6 (2 ^ a ||| 2 ^ b) = a ∧ nx6 (2 ^ a ||| 2 ^ b) = b ∧ 0 < 2 ^ a ||| 2 ^ b) := by decide +kernel
theorem nx_gt : ∀ s, s < 64 → (0 < s → tz6 s < nx6 s) := by decide +kernel
theorem spS_sorted {sec f : Nat} (hl : len ≤ 6) : ∀ b, (spS n fk fs len fw sec f b).Pairwise (· < ·)
  | 0 => List.Pairwise.nil
  | b + 1 => by
    rw [spS, List.pairwise_append]
    refine ⟨spS_sorted hl b, ?_, ?_⟩
    · split
      · exact List.pairwise_singleton _ _
      · exact List.Pairwise.nil
    · intro x hx y hy
      split at hy
      · rename_i q
        rw [List.mem_singleton] at hy
        obtain ⟨c, h1, h2, rfl⟩ := spS_mem.mp hx
        simp only [Bool.and_eq_true, decide_eq_true_eq] at q
        subst hy
        exact two_lt f (by omega) c (by omega) b (by omega) h1
      · cases hy
theorem sp_same {fst sec r p s : Nat} {pa : Nat → Option Nat} {m : Nat} (hl : len ≤ 6) (h0 : og (pa 0) = fst) (h1 : og (pa 1) = sec) : ((p < len ∧ fm n fk fs (fw p) fst = true) ∧ s ∈ spS n fk fs len fw sec p (r + 1)) ↔ (s < 2 ^ len ∧ 0 < s ∧ stS n fk fs len fw (some r) m pa s = true) ∧ tz6 s = p := by
  rw [spS_mem]
  constructor
  · rintro ⟨⟨a1, a2⟩, c, b1, ⟨b2, b3⟩, rfl⟩
    obtain ⟨t1, t2, t3⟩ := two_tz p (by omega) (p + 1 + c) (by omega) (by omega)
    refine ⟨⟨Nat.or_lt_two_pow (Nat.pow_lt_pow_right (by decide) a1) (Nat.pow_lt_pow_right (by decide) b2), t3, ?_⟩, t1⟩
    unfold stS
    simp only [t1, t2, h0, h1, a2, b3, Bool.and_eq_true, decide_eq_true_eq]
    exact ⟨⟨b2, trivial, by omega⟩, trivial, trivial⟩
  · rintro ⟨⟨a1, a2, a3⟩, rfl⟩
    have hs : s < 64 := Nat.lt_of_lt_of_le a1 (Nat.pow_le_pow_right (by decide) hl)
    have hg := nx_gt s hs a2
    unfold stS at a3
    simp only [h0, h1, Bool.and_eq_true, decide_eq_true_eq] at a3
    obtain ⟨⟨b1, b2, b3⟩, b4, b5⟩ := a3
    have e : tz6 s + 1 + (nx6 s - tz6 s - 1) = nx6 s := by omega
    exact ⟨⟨by omega, b4⟩, nx6 s - tz6 s - 1, by omega, by rw [e]; exact ⟨b1, b5⟩, by rw [e]; exact b2⟩
theorem phL_fz {pa : Nat → Option Nat} {pn en pr p : Nat} (ht : ∀ g, phAt n fk fs len fw pa pn g ≠ 0 → tz6 (phAt n fk fs len fw pa pn g) = g) : ∀ f, fz p (phL n fk fs len fw pa pn en pr f) = if p < f ∧ phAt n fk fs len fw pa pn p ≠ 0 then [(en, phAt n fk fs len fw pa pn p, pr)] else []
  | 0 => rfl
  | f + 1 => by
    rw [phL, fz_app, phL_fz ht f]
    by_cases h0 : phAt n fk fs len fw pa pn f = 0
    · rw [if_pos h0]
      by_cases e : p = f
      · subst e
        simp [h0, fz]
      · have q : (p < f + 1) = (p < f) := propext (by omega)
        simp [q, fz]
    · rw [if_neg h0]
      have h1 := ht f h0
      by_cases e : p = f
      · subst e
        simp [h0, fz, h1]
      · have q : (p < f + 1) = (p < f) := propext (by omega)
        have e2 : ¬ f = p := fun z => e z.symm
        simp [q, fz, h1, e2]
theorem spL_fz {en pr fst sec r p : Nat} (hl : len ≤ 6) : ∀ f, f ≤ 6 → fz p (spL n fk fs len fw en pr fst sec r f) = if p < f ∧ p < len ∧ fm n fk fs (fw p) fst = true then (spS n fk fs len fw sec p (r + 1)).map (fun s => (en, s, pr)) else []
  | 0, _ => rfl
  | f + 1, hf => by
    rw [spL, fz_app, spL_fz hl f (by omega)]
    have hb : fz p (spB n fk fs len fw en pr sec f (r + 1)) = if f = p then (spS n fk fs len fw sec f (r + 1)).map (fun s => (en, s, pr)) else [] := by
      rw [spB_map, fz_map]
      by_cases e : f = p
      · rw [if_pos e]
        congr 1
        rw [List.filter_eq_self]
        intro s hs
        obtain ⟨c, h1, ⟨h2, h3⟩, rfl⟩ := spS_mem.mp hs
        rw [decide_eq_true_eq, ← e]
        exact (two_tz f (by omega) (f + 1 + c) (by omega) (by omega)).1
      · rw [if_neg e, List.filter_eq_nil_iff.mpr]
        · rfl
        · intro s hs
          obtain ⟨c, h1, ⟨h2, h3⟩, rfl⟩ := spS_mem.mp hs
          rw [decide_eq_true_eq, (two_tz f (by omega) (f + 1 + c) (by omega) (by omega)).1]
          exact e
    have hm : fz p (if (decide (f < len) && fm n fk fs (fw f) fst) = true then spB n fk fs len fw en pr sec f (r + 1) else []) = if f = p ∧ f < len ∧ fm n fk fs (fw f) fst = true then (spS n fk fs len fw sec f (r + 1)).map (fun s => (en, s, pr)) else [] := by
      by_cases c : (decide (f < len) && fm n fk fs (fw f) fst) = true
      · rw [if_pos c, hb]
        by_cases e : f = p
        · rw [if_pos e, if_pos ⟨e, by simpa using c⟩]
        · rw [if_neg e, if_neg (fun q => e q.1)]
      · rw [if_neg c, if_neg (fun q => c (by simpa using q.2))]; rfl
    rw [hm]
    by_cases e : f = p
    · subst e
      rw [if_neg (fun q => Nat.lt_irrefl _ q.1), List.nil_append]
      by_cases c : f < len ∧ fm n fk fs (fw f) fst = true
      · rw [if_pos ⟨rfl, c⟩, if_pos ⟨Nat.lt_succ_self _, c⟩]
      · rw [if_neg (fun q => c q.2), if_neg (fun q => c q.2)]
    · have q : (p < f + 1) = (p < f) := propext (by omega)
      rw [if_neg (show ¬ (f = p ∧ f < len ∧ fm n fk fs (fw f) fst = true) from fun q => e q.1), List.append_nil]
      simp only [q]
theorem st_fz {rc : Nat → Option Nat} {ck pm : Nat → Nat} {ep : Nat → Nat → Option Nat} {mc e p : Nat} (hl : len ≤ 6) (hE : EW mc rc ck pm ep) (he : e < mc) (hp : p < 6) : fz p (stE n fk fs len fw rc ck pm ep e) = fz p (smL n fk fs len fw rc ck pm ep e) := by
  unfold stE smL
  rw [fz_map]
  cases hr : rc e with
  | none =>
    obtain ⟨h1, h2, h3⟩ := hE.ph he hr
    have key : ∀ {p s : Nat}, _ := fun {p s : Nat} => ph_same (n := n) (fk := fk) (fs := fs) (fw := fw) (p := p) (s := s) hl ⟨h1.1, h1.2.1⟩ h2 h3
    show fz p (phL n fk fs len fw (ep e) (pm e) e (ck e) 6) = _
    rw [phL_fz (fun g hg => (key.mp ⟨hg, rfl⟩).2)]
    have hs := sorted_ext (a := if phAt n fk fs len fw (ep e) (pm e) p ≠ 0 then [phAt n fk fs len fw (ep e) (pm e) p] else []) (b := (smE (stS n fk fs len fw none (pm e) (ep e)) (2 ^ len)).filter (fun s => decide (tz6 s = p))) ?_ ((smE_sorted _ _).filter _) ?_
    · rw [← hs]
      by_cases c : phAt n fk fs len fw (ep e) (pm e) p ≠ 0
      · rw [if_pos ⟨hp, c⟩, if_pos c]; rfl
      · rw [if_neg (fun q => c q.2), if_neg c]; rfl
    · split
      · exact List.pairwise_singleton _ _
      · exact List.Pairwise.nil
    · intro s
      rw [List.mem_filter, smE_mem, decide_eq_true_eq, ← key]
      split
      · rename_i c
        rw [List.mem_singleton]
        exact ⟨fun q => ⟨c, q⟩, fun q => q.2⟩
      · rename_i c
        exact ⟨fun q => absurd q List.not_mem_nil, fun q => absurd q.1 c⟩
  | some r =>
    show fz p (spL n fk fs len fw e (ck e) (og (ep e 0)) (og (ep e 1)) r 6) = _
    rw [spL_fz hl 6 (Nat.le_refl 6)]
    have key : ∀ {s : Nat}, _ := fun {s : Nat} => sp_same (n := n) (fk := fk) (fs := fs) (fw := fw) (r := r) (p := p) (s := s) (pa := ep e) (m := pm e) hl rfl rfl
    have hs := sorted_ext (a := if p < len ∧ fm n fk fs (fw p) (og (ep e 0)) = true then spS n fk fs len fw (og (ep e 1)) p (r + 1) else []) (b := (smE (stS n fk fs len fw (some r) (pm e) (ep e)) (2 ^ len)).filter (fun s => decide (tz6 s = p))) ?_ ((smE_sorted _ _).filter _) ?_
    · rw [← hs]
      by_cases c : p < len ∧ fm n fk fs (fw p) (og (ep e 0)) = true
      · rw [if_pos ⟨hp, c⟩, if_pos c]
      · rw [if_neg (fun q => c q.2), if_neg c]; rfl
    · split
      · exact spS_sorted hl _
      · exact List.Pairwise.nil
    · intro s
      rw [List.mem_filter, smE_mem, decide_eq_true_eq, ← key]
      split
      · rename_i c
        exact ⟨fun q => ⟨c, q⟩, fun q => q.2⟩
      · rename_i c
        exact ⟨fun q => absurd q List.not_mem_nil, fun q => absurd q.1 c⟩
theorem stN_fz {rc : Nat → Option Nat} {ck pm : Nat → Nat} {ep : Nat → Nat → Option Nat} {th : Nat → Bool} {mc p : Nat} (hl : len ≤ 6) (hE : EW mc rc ck pm ep) (hth : ∀ e, th e = true → e < mc) (hp : p < 6) : ∀ k, fz p (stN n fk fs len fw rc ck pm ep th k) = fz p (smN n fk fs len fw rc ck pm ep th k)
  | 0 => rfl
  | k + 1 => by
    rw [stN, smN, fz_app, fz_app, stN_fz hl hE hth hp k]
    congr 1
    split
    · rename_i q
      exact st_fz hl hE (hth k q) hp
    · rfl
theorem smL_ok {rc : Nat → Option Nat} {ck pm : Nat → Nat} {ep : Nat → Nat → Option Nat} {e : Nat} {x : Nat × Nat × Nat} (h : x ∈ smL n fk fs len fw rc ck pm ep e) : x.1 = e ∧ 0 < x.2.1 ∧ x.2.1 < 2 ^ len ∧ x.2.2 = ck e := by
  unfold smL at h
  obtain ⟨s, h1, rfl⟩ := List.mem_map.mp h
  obtain ⟨a, b, -⟩ := smE_mem.mp h1
  exact ⟨rfl, b, a, rfl⟩
theorem smN_ok {rc : Nat → Option Nat} {ck pm : Nat → Nat} {ep : Nat → Nat → Option Nat} {th : Nat → Bool} {x : Nat × Nat × Nat} : ∀ {k : Nat}, x ∈ smN n fk fs len fw rc ck pm ep th k → x.1 < k ∧ th x.1 = true ∧ 0 < x.2.1 ∧ x.2.1 < 2 ^ len ∧ x.2.2 = ck x.1
  | 0, h => by cases h
  | k + 1, h => by
    rw [smN, List.mem_append] at h
    rcases h with h | h
    · obtain ⟨a, b⟩ := smN_ok h
      exact ⟨by omega, b⟩
    · split at h
      · rename_i q
        obtain ⟨a, b, c, d⟩ := smL_ok h
        subst a
        exact ⟨by omega, q, b, c, d⟩
      · cases h
theorem smN_more {rc : Nat → Option Nat} {ck pm : Nat → Nat} {ep : Nat → Nat → Option Nat} {th : Nat → Bool} {a : Nat} (h : ∀ j, a ≤ j → th j = false) : ∀ {b : Nat}, a ≤ b → smN n fk fs len fw rc ck pm ep th b = smN n fk fs len fw rc ck pm ep th a
  | 0, hb => by rw [Nat.le_zero.mp hb]
  | b + 1, hb => by
    rcases Nat.lt_or_ge a (b + 1) with q | q
    · rw [smN, h b (by omega), if_neg (by decide), List.append_nil, smN_more h (by omega)]
    · rw [show a = b + 1 by omega]
end EQ
theorem len_tz : ∀ (L : SL), (∀ x ∈ L, tz6 x.2.1 < 6) → L.length = (fz 0 L).length + (fz 1 L).length + (fz 2 L).length + (fz 3 L).length + (fz 4 L).length + (fz 5 L).length
  | [], _ => rfl
  | x :: xs, h => by
    have h1 := len_tz xs (fun y hy => h y (List.mem_cons_of_mem _ hy))
    have h2 := h x List.mem_cons_self
    have hf : ∀ p, (fz p (x :: xs)).length = (fz p xs).length + (if tz6 x.2.1 = p then 1 else 0) := by
      intro p
      unfold fz
      rw [List.filter_cons]
      by_cases e : tz6 x.2.1 = p <;> simp [e]
    rw [List.length_cons, h1, hf, hf, hf, hf, hf, hf]
    rcases (show tz6 x.2.1 = 0 ∨ tz6 x.2.1 = 1 ∨ tz6 x.2.1 = 2 ∨ tz6 x.2.1 = 3 ∨ tz6 x.2.1 = 4 ∨ tz6 x.2.1 = 5 by omega) with e | e | e | e | e | e <;> simp [e] <;> omega
theorem len_fz {a b : SL} (ha : ∀ x ∈ a, 0 < x.2.1 ∧ x.2.1 < 64) (hb : ∀ x ∈ b, 0 < x.2.1 ∧ x.2.1 < 64) (h : ∀ p, p < 6 → fz p a = fz p b) : a.length = b.length := by
  rw [len_tz a (fun x hx => tz6_lt _ (ha x hx).2 (ha x hx).1), len_tz b (fun x hx => tz6_lt _ (hb x hx).2 (hb x hx).1), h 0 (by decide), h 1 (by decide), h 2 (by decide), h 3 (by decide), h 4 (by decide), h 5 (by decide)]
