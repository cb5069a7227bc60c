/-! ===== trying all covers gives the same cost ===== -/
def Ach (ba : Nat) : SL → Nat → Int → Prop
  | [], _, v => v = 0
  | x :: xs, t, v => Ach ba xs t v ∨ (x.2.1 &&& t = 0 ∧ ∃ w, v = wt ba x + w ∧ Ach ba xs (t ||| x.2.1) w)
theorem ach_dm {ba : Nat} : ∀ (L : SL) (t : Nat), Ach ba L t (dm ba L t)
  | [], _ => rfl
  | x :: xs, t => by
    have h := ach_dm (ba := ba) xs t
    rw [dm]
    split
    · rename_i c
      rcases Int.le_total (dm ba xs t) (wt ba x + dm ba xs (t ||| x.2.1)) with q | q
      · rw [Int.min_eq_left q]; exact Or.inl h
      · rw [Int.min_eq_right q]; exact Or.inr ⟨c, _, rfl, ach_dm xs _⟩
    · exact Or.inl h
theorem dm_min {ba : Nat} : ∀ {L : SL} {t : Nat} {v : Int}, Ach ba L t v → dm ba L t ≤ v
  | [], _, _, h => by
    have h : _ = (0 : Int) := h
    rw [h]; exact Int.le_refl 0
  | x :: xs, t, v, h => by
    rw [dm]
    rcases h with h | ⟨c, w, rfl, h⟩
    · have := dm_min h
      split <;> omega
    · have := dm_min h
      rw [if_pos c]
      omega
theorem dis_or (a b c : Nat) : a &&& (b ||| c) = 0 ↔ a &&& b = 0 ∧ a &&& c = 0 := by rw [Nat.and_or_distrib_left, Nat.or_eq_zero_iff]
theorem dis_sw (x y t : Nat) : (x &&& t = 0 ∧ y &&& (t ||| x) = 0) ↔ (y &&& t = 0 ∧ x &&& (t ||| y) = 0) := by
  rw [dis_or, dis_or, Nat.and_comm y x]
  constructor
  · rintro ⟨a, b, c⟩; exact ⟨b, a, c⟩
  · rintro ⟨a, b, c⟩; exact ⟨b, a, c⟩
/-- the list without the standings at a place -/
def nf (p : Nat) (L : SL) : SL := L.filter (fun x => !tb x.2.1 p)
theorem nf_t {p : Nat} {x : Nat × Nat × Nat} {xs : SL} (h : tb x.2.1 p = true) : nf p (x :: xs) = nf p xs := by
  unfold nf; rw [List.filter_cons, if_neg (by rw [h]; decide)]
theorem nf_f {p : Nat} {x : Nat × Nat × Nat} {xs : SL} (h : tb x.2.1 p = false) : nf p (x :: xs) = x :: nf p xs := by
  unfold nf; rw [List.filter_cons, if_pos (by rw [h]; decide)]
theorem and_tb : ∀ s, s < 64 → ∀ t, t < 64 → ∀ p, p < 6 → (tb s p = true → tb t p = true → s &&& t ≠ 0) := by decide +kernel
def L64 (L : SL) : Prop := ∀ x ∈ L, 0 < x.2.1 ∧ x.2.1 < 64
theorem ach_full {ba p : Nat} (hp : p < 6) : ∀ {L : SL} {t : Nat} {v : Int}, L64 L → t < 64 → tb t p = true → (Ach ba L t v ↔ Ach ba (nf p L) t v)
  | [], _, _, _, _, _ => Iff.rfl
  | x :: xs, t, v, hL, ht, hb => by
    have hx := hL x List.mem_cons_self
    have hL2 : L64 xs := fun y hy => hL y (List.mem_cons_of_mem _ hy)
    cases c : tb x.2.1 p with
    | true =>
      rw [nf_t c, ← ach_full hp hL2 ht hb]
      exact ⟨fun h => h.elim id (fun h => absurd h.1 (and_tb _ hx.2 t ht p hp c hb)), Or.inl⟩
    | false =>
      rw [nf_f c]
      have h1 := ach_full (ba := ba) (v := v) hp hL2 ht hb
      have h2 : ∀ w, Ach ba xs (t ||| x.2.1) w ↔ Ach ba (nf p xs) (t ||| x.2.1) w := fun w => ach_full hp hL2 (or64 ht hx.2) (by rw [tb_or t ht _ hx.2 p hp, hb]; rfl)
      simp only [Ach, h1, h2]
theorem ach_split {ba p : Nat} (hp : p < 6) : ∀ {L : SL} {t : Nat} {v : Int}, L64 L → t < 64 → tb t p = false → (Ach ba L t v ↔ Ach ba (nf p L) t v ∨ ∃ x ∈ L, tb x.2.1 p = true ∧ x.2.1 &&& t = 0 ∧ ∃ w, v = wt ba x + w ∧ Ach ba (nf p L) (t ||| x.2.1) w)
  | [], _, _, _, _, _ => ⟨Or.inl, fun h => h.elim id (fun ⟨x, h, _⟩ => absurd h List.not_mem_nil)⟩
  | x :: xs, t, v, hL, ht, hb => by
    have hx := hL x List.mem_cons_self
    have hL2 : L64 xs := fun y hy => hL y (List.mem_cons_of_mem _ hy)
    have ih := fun v => ach_split (ba := ba) (v := v) hp hL2 ht hb
    cases c : tb x.2.1 p with
    | true =>
      rw [nf_t c]
      have hf : ∀ w, Ach ba xs (t ||| x.2.1) w ↔ Ach ba (nf p xs) (t ||| x.2.1) w := fun w => ach_full hp hL2 (or64 ht hx.2) (by rw [tb_or t ht _ hx.2 p hp, c, Bool.or_true])
      constructor
      · rintro (h | ⟨h1, w, h2, h3⟩)
        · rcases (ih v).mp h with h | ⟨y, hy, h⟩
          · exact Or.inl h
          · exact Or.inr ⟨y, List.mem_cons_of_mem _ hy, h⟩
        · exact Or.inr ⟨x, List.mem_cons_self, c, h1, w, h2, (hf w).mp h3⟩
      · rintro (h | ⟨y, hy, h1, h2, w, h3, h4⟩)
        · exact Or.inl ((ih v).mpr (Or.inl h))
        · rcases List.mem_cons.mp hy with e | hy
          · subst e
            exact Or.inr ⟨h2, w, h3, (hf w).mpr h4⟩
          · exact Or.inl ((ih v).mpr (Or.inr ⟨y, hy, h1, h2, w, h3, h4⟩))
    | false =>
      rw [nf_f c]
      have hb2 : tb (t ||| x.2.1) p = false := by rw [tb_or t ht _ hx.2 p hp, hb, c]; rfl
      have ih2 := fun v => ach_split (ba := ba) (v := v) hp hL2 (or64 ht hx.2) hb2
      constructor
      · rintro (h | ⟨h1, w, h2, h3⟩)
        · rcases (ih v).mp h with h | ⟨y, hy, a1, a2, w, a3, a4⟩
          · exact Or.inl (Or.inl h)
          · exact Or.inr ⟨y, List.mem_cons_of_mem _ hy, a1, a2, w, a3, Or.inl a4⟩
        · rcases (ih2 w).mp h3 with h | ⟨y, hy, a1, a2, w2, a3, a4⟩
          · exact Or.inl (Or.inr ⟨h1, w, h2, h⟩)
          · obtain ⟨b1, b2⟩ := (dis_sw x.2.1 y.2.1 t).mp ⟨h1, a2⟩
            exact Or.inr ⟨y, List.mem_cons_of_mem _ hy, a1, b1, wt ba x + w2, by omega, Or.inr ⟨b2, w2, rfl, by rw [or_comm3]; exact a4⟩⟩
      · rintro ((h | ⟨h1, w, h2, h3⟩) | ⟨y, hy, a1, a2, w, a3, a4⟩)
        · exact Or.inl ((ih v).mpr (Or.inl h))
        · exact Or.inr ⟨h1, w, h2, (ih2 w).mpr (Or.inl h3)⟩
        · rcases List.mem_cons.mp hy with e | hy
          · subst e
            rw [c] at a1; cases a1
          · rcases a4 with a4 | ⟨b1, w2, b2, b3⟩
            · exact Or.inl ((ih v).mpr (Or.inr ⟨y, hy, a1, a2, w, a3, a4⟩))
            · obtain ⟨d1, d2⟩ := (dis_sw y.2.1 x.2.1 t).mp ⟨a2, b1⟩
              exact Or.inr ⟨d1, wt ba y + w2, by omega, (ih2 _).mpr (Or.inr ⟨y, hy, a1, d2, w2, rfl, by rw [or_comm3]; exact b3⟩)⟩
/-- the bare cost of the last k places that aren't in a set -/
def frL (len ba : Nat) : Nat → Nat → Nat
  | 0, _ => 0
  | k + 1, t => (if tb t (5 - k) = true then 0 else if 5 - k < len then ba else 0) + frL len ba k t
def bck : Nat → Nat → Nat
  | 0, _ => 0
  | k + 1, s => (if tb s (5 - k) = true then 1 else 0) + bck k s
theorem bck_all : ∀ s, s < 64 → ∀ k, k < 6 → (tz6 s = 5 - k → bc6 s = bck (k + 1) s) := by decide +kernel
theorem tb_len : ∀ n, n < 7 → ∀ s, s < 64 → ∀ p, p < 6 → (s < 2 ^ n → tb s p = true → p < n) := by decide +kernel
theorem tb_tz : ∀ s, s < 64 → ∀ p, p < 6 → (tz6 s = p → tb s p = true) ∧ (p ≤ tz6 s → tb s p = true → tz6 s = p) := by decide +kernel
theorem fr_or {len ba t s : Nat} (hl : len ≤ 6) (ht : t < 64) (hs : s < 64) (hs2 : s < 2 ^ len) (hd : s &&& t = 0) : ∀ k, k ≤ 6 → frL len ba k t = frL len ba k (t ||| s) + ba * bck k s
  | 0, _ => by simp [frL, bck]
  | k + 1, hk => by
    have ih := fr_or (ba := ba) hl ht hs hs2 hd k (by omega)
    simp only [frL, bck, tb_or t ht s hs (5 - k) (by omega)]
    cases c : tb s (5 - k) with
    | true =>
      have h1 := tb_len len (by omega) s hs (5 - k) (by omega) hs2 c
      cases c2 : tb t (5 - k) with
      | true => exact absurd hd (and_tb s hs t ht (5 - k) (by omega) c c2)
      | false => simp [h1, ih, Nat.mul_add]; omega
    | false =>
      cases c2 : tb t (5 - k) <;> simp [ih] <;> omega
theorem mnL_at {g : Nat × Nat × Nat → Bool} {v : Nat × Nat × Nat → Nat} : ∀ {b : Nat} {L : SL}, (mnL g v b L = b ∨ ∃ x ∈ L, g x = true ∧ mnL g v b L = v x) ∧ ∀ x ∈ L, g x = true → mnL g v b L ≤ v x
  | _, [] => ⟨Or.inl rfl, fun x h => absurd h List.not_mem_nil⟩
  | b, y :: ys => by
    obtain ⟨h1, h2⟩ := mnL_at (g := g) (v := v) (b := if g y = true then min b (v y) else b) (L := ys)
    rw [mnL]
    refine ⟨?_, fun x hx hg => ?_⟩
    · rcases h1 with h1 | ⟨x, hx, h1⟩
      · by_cases c : g y = true
        · rw [if_pos c] at h1 ⊢
          rcases Nat.le_total b (v y) with q | q
          · rw [Nat.min_eq_left q] at h1 ⊢; exact Or.inl h1
          · rw [Nat.min_eq_right q] at h1 ⊢; exact Or.inr ⟨y, List.mem_cons_self, c, h1⟩
        · rw [if_neg c] at h1 ⊢; exact Or.inl h1
      · exact Or.inr ⟨x, List.mem_cons_of_mem _ hx, h1⟩
    · rcases List.mem_cons.mp hx with e | hx
      · subst e
        refine Nat.le_trans mnL_le ?_
        rw [if_pos hg]
        omega
      · exact h2 x hx hg
/-- the standings from a place on -/
def fge (p : Nat) (L : SL) : SL := L.filter (fun x => decide (p ≤ tz6 x.2.1))
theorem nf_fge {p : Nat} {L : SL} (hL : L64 L) (hp : p < 6) : nf p (fge p L) = fge (p + 1) L := by
  unfold nf fge
  rw [List.filter_filter]
  refine List.filter_congr (fun x hx => ?_)
  obtain ⟨h1, h2⟩ := hL x hx
  obtain ⟨t1, t2⟩ := tb_tz x.2.1 h2 p hp
  by_cases c : p ≤ tz6 x.2.1
  · by_cases d : tz6 x.2.1 = p
    · rw [t1 d]; simp; omega
    · have e : tb x.2.1 p = false := by
        cases q : tb x.2.1 p with
        | true => exact absurd (t2 c q) d
        | false => rfl
      rw [e]; simp; omega
  · simp [c]; omega
theorem op_dm {L : SL} {len ba : Nat} (h : LW len L) : ∀ k t, k ≤ 6 → t < 64 → (opL L len ba k t : Int) = (frL len ba k t : Int) + dm ba (fge (6 - k) L) t
  | 0, t, _, _ => by
    have e : fge 6 L = [] := by
      unfold fge
      rw [List.filter_eq_nil_iff]
      intro x hx
      have := tz6_lt _ (h.lt hx).2 (h.lt hx).1
      rw [decide_eq_true_eq]
      omega
    show (0 : Int) = 0 + dm ba (fge 6 L) t
    rw [e]; rfl
  | k + 1, t, hk, ht => by
    have hL : L64 L := fun x hx => h.lt hx
    have hLp : L64 (fge (5 - k) L) := fun x hx => hL x (List.mem_filter.mp hx).1
    have hn := nf_fge hL (p := 5 - k) (by omega)
    have e1 : 6 - (k + 1) = 5 - k := by omega
    have e2 : 5 - k + 1 = 6 - k := by omega
    rw [e2] at hn
    have ih := fun u hu => op_dm (ba := ba) h k u (by omega) hu
    rw [opL_s, e1, frL]
    cases c : tb t (5 - k) with
    | true =>
      rw [if_pos rfl, if_pos rfl, ih t ht]
      have q : dm ba (fge (5 - k) L) t = dm ba (fge (6 - k) L) t := by
        refine Int.le_antisymm (dm_min ?_) (dm_min ?_)
        · rw [ach_full (p := 5 - k) (by omega) hLp ht c, hn]; exact ach_dm _ _
        · rw [← hn, ← ach_full (p := 5 - k) (by omega) hLp ht c]; exact ach_dm _ _
      rw [q]; omega
    | false =>
      simp only [Bool.false_eq_true, if_false]
      have hsp : ∀ v, _ := fun v => ach_split (ba := ba) (v := v) (p := 5 - k) (by omega) hLp ht c
      rw [hn] at hsp
      have hb := ih t ht
      have hx : ∀ x ∈ L, fits x.2.1 (5 - k) t = true → x ∈ fge (5 - k) L ∧ tb x.2.1 (5 - k) = true ∧ x.2.1 &&& t = 0 ∧ ((x.2.2 + opL L len ba k (t ||| x.2.1) : Nat) : Int) = ((((if 5 - k < len then ba else 0) + frL len ba k t : Nat)) : Int) + (wt ba x + dm ba (fge (6 - k) L) (t ||| x.2.1)) := by
        intro x hx hf
        unfold fits at hf
        rw [Bool.and_eq_true, decide_eq_true_eq, decide_eq_true_eq] at hf
        obtain ⟨h1, h2⟩ := hL x hx
        have t1 := (tb_tz x.2.1 h2 (5 - k) (by omega)).1 hf.1
        refine ⟨List.mem_filter.mpr ⟨hx, by rw [decide_eq_true_eq]; omega⟩, t1, hf.2, ?_⟩
        have i2 := ih (t ||| x.2.1) (or64 ht h2)
        have f2 := fr_or (ba := ba) h.1 ht h2 (h.2 x hx).2 hf.2 (k + 1) hk
        have b2 := bck_all x.2.1 h2 k (by omega) hf.1
        have t2 := tb_len len (by have := h.1; omega) x.2.1 h2 (5 - k) (by omega) (h.2 x hx).2 t1
        simp only [frL, tb_or t ht _ h2 (5 - k) (by omega), t1, c, Bool.or_true, if_true, if_pos t2] at f2
        rw [← b2] at f2
        rw [if_pos t2]
        unfold wt
        simp at f2
        omega
      obtain ⟨m1, m2⟩ := mnL_at (g := fun x => fits x.2.1 (5 - k) t) (v := fun x => x.2.2 + opL L len ba k (t ||| x.2.1)) (b := (if 5 - k < len then ba else 0) + opL L len ba k t) (L := L)
      have m3 := mnL_le (g := fun x => fits x.2.1 (5 - k) t) (v := fun x => x.2.2 + opL L len ba k (t ||| x.2.1)) (b := (if 5 - k < len then ba else 0) + opL L len ba k t) (L := L)
      have lo : dm ba (fge (5 - k) L) t ≤ dm ba (fge (6 - k) L) t := dm_min ((hsp _).mpr (Or.inl (ach_dm _ _)))
      have up := (hsp _).mp (ach_dm (fge (5 - k) L) t)
      refine Int.le_antisymm ?_ ?_
      · rcases up with u | ⟨x, x1, x2, x3, w, x4, x5⟩
        · have := dm_min u
          omega
        · have xm := (List.mem_filter.mp x1).1
          have xt : tz6 x.2.1 = 5 - k := (tb_tz x.2.1 (hL x xm).2 (5 - k) (by omega)).2 (by have := (List.mem_filter.mp x1).2; rw [decide_eq_true_eq] at this; exact this) x2
          have xf : fits x.2.1 (5 - k) t = true := by unfold fits; rw [xt, x3]; simp
          have a := m2 x xm xf
          obtain ⟨-, -, -, b⟩ := hx x xm xf
          have d := dm_min x5
          omega
      · rcases m1 with m1 | ⟨x, xm, xf, m1⟩
        · omega
        · obtain ⟨b1, b2, b3, b4⟩ := hx x xm xf
          have d := dm_min ((hsp _).mpr (Or.inr ⟨x, b1, b2, b3, _, rfl, ach_dm _ _⟩))
          omega
theorem fr_0 {len ba : Nat} (hl : len ≤ 6) : frL len ba 6 0 = ba * len := by
  rcases (show len = 0 ∨ len = 1 ∨ len = 2 ∨ len = 3 ∨ len = 4 ∨ len = 5 ∨ len = 6 by omega) with e | e | e | e | e | e | e <;> subst e <;> simp [frL, tb] <;> omega
/-- the cost by trying all covers is that by places -/
theorem all_same {L : SL} {len ba : Nat} (h : LW len L) : ((ba * len : Nat) : Int) + dm ba L 0 = (opL L len ba 6 0 : Int) := by
  rw [op_dm h 6 0 (Nat.le_refl 6) (by decide), fr_0 h.1]
  have e : fge (6 - 6) L = L := by
    unfold fge
    rw [List.filter_eq_self]
    intro x _
    simp
  rw [e]
