/-! ===== the best cover over a list of standings: place by place, and over sets ===== -/
/-- the least of b and what the list's rows say -/
def mnL (g : Nat × Nat × Nat → Bool) (v : Nat × Nat × Nat → Nat) (b : Nat) : SL → Nat
  | [] => b
  | x :: xs => mnL g v (if g x = true then min b (v x) else b) xs
theorem mnL_app {g : Nat × Nat × Nat → Bool} {v : Nat × Nat × Nat → Nat} : ∀ {b : Nat} {L K : SL}, mnL g v b (L ++ K) = mnL g v (mnL g v b L) K
  | _, [], _ => rfl
  | b, x :: xs, K => mnL_app (L := xs)
theorem mnL_congr {g g' : Nat × Nat × Nat → Bool} {v v' : Nat × Nat × Nat → Nat} : ∀ {b : Nat} {L : SL}, (∀ x ∈ L, g x = g' x ∧ (g x = true → v x = v' x)) → mnL g v b L = mnL g' v' b L
  | _, [], _ => rfl
  | b, x :: xs, h => by
    obtain ⟨h1, h2⟩ := h x List.mem_cons_self
    have e : (if g x = true then min b (v x) else b) = (if g' x = true then min b (v' x) else b) := by
      rw [← h1]
      by_cases c : g x = true
      · rw [if_pos c, if_pos c, h2 c]
      · rw [if_neg c, if_neg c]
    rw [mnL, mnL, e]
    exact mnL_congr (fun y hy => h y (List.mem_cons_of_mem _ hy))
theorem mnL_fil {g q : Nat × Nat × Nat → Bool} {v : Nat × Nat × Nat → Nat} : ∀ {b : Nat} {L : SL}, (∀ x ∈ L, g x = true → q x = true) → mnL g v b L = mnL g v b (L.filter q)
  | _, [], _ => rfl
  | b, x :: xs, h => by
    have h1 := fun y hy => h y (List.mem_cons_of_mem _ hy)
    rw [List.filter_cons]
    by_cases c : q x = true
    · rw [if_pos c, mnL, mnL]
      exact mnL_fil h1
    · rw [if_neg c, mnL, if_neg (fun z => c (h x List.mem_cons_self z))]
      exact mnL_fil h1
theorem mnL_no {g : Nat × Nat × Nat → Bool} {v : Nat × Nat × Nat → Nat} : ∀ {b : Nat} {L : SL}, (∀ x ∈ L, g x = false) → mnL g v b L = b
  | _, [], _ => rfl
  | b, x :: xs, h => by
    rw [mnL, h x List.mem_cons_self]
    exact mnL_no (fun y hy => h y (List.mem_cons_of_mem _ hy))
theorem mnL_le {g : Nat × Nat × Nat → Bool} {v : Nat × Nat × Nat → Nat} : ∀ {b : Nat} {L : SL}, mnL g v b L ≤ b
  | _, [] => Nat.le_refl _
  | b, x :: xs => by
    rw [mnL]
    refine Nat.le_trans mnL_le ?_
    split <;> omega
/-- the costs of the last k places -/
def opL (L : SL) (len ba : Nat) : Nat → Nat → Nat
  | 0 => fun _ => 0
  | k + 1 => fun t => if tb t (5 - k) = true then opL L len ba k t else mnL (fun x => fits x.2.1 (5 - k) t) (fun x => x.2.2 + opL L len ba k (t ||| x.2.1)) ((if 5 - k < len then ba else 0) + opL L len ba k t) L
theorem opL_s (L : SL) (len ba k t : Nat) : opL L len ba (k + 1) t = if tb t (5 - k) = true then opL L len ba k t else mnL (fun x => fits x.2.1 (5 - k) t) (fun x => x.2.2 + opL L len ba k (t ||| x.2.1)) ((if 5 - k < len then ba else 0) + opL L len ba k t) L := rfl
theorem optR_s (fp fr : Nat → Nat) (cnt size bare k t : Nat) : optR fp fr cnt size bare (k + 1) t = if tb t (5 - k) = true then optR fp fr cnt size bare k t else lfN (optR fp fr cnt size bare k) fp fr (5 - k) t (if 5 - k < size then bare else 0) cnt := rfl
theorem lfN_mn {L : SL} {cnt : Nat} {fn fp fr : Nat → Nat} (h : stOK L cnt fn fp fr) {m : Nat → Nat} {pl tk idl : Nat} : ∀ i, i ≤ cnt → lfN m fp fr pl tk idl i = mnL (fun x => fits x.2.1 pl tk) (fun x => x.2.2 + m (tk ||| x.2.1)) (idl + m tk) (L.take i)
  | 0, _ => rfl
  | i + 1, hi => by
    have e : L.take (i + 1) = L.take i ++ [(fn i, fp i, fr i)] := by
      rw [List.take_add_one, (stOK_get h (by omega)).2]; rfl
    rw [e, mnL_app, ← lfN_mn h i (by omega), lfN]
    rfl
theorem op_class {L : SL} {cnt : Nat} {fn fp fr : Nat → Nat} {len ba : Nat} (h : stOK L cnt fn fp fr) : ∀ k t, optR fp fr cnt len ba k t = opL L len ba k t
  | 0, _ => rfl
  | k + 1, t => by
    have ih : optR fp fr cnt len ba k = opL L len ba k := funext (op_class h k)
    rw [optR_s, opL_s, ih]
    split
    · rfl
    · rw [lfN_mn h cnt (Nat.le_refl _), List.take_of_length_le (by rw [h.1]; exact Nat.le_refl _)]
theorem op_fz {L K : SL} {len ba : Nat} (h : ∀ p, p < 6 → fz p L = fz p K) : ∀ k, k ≤ 6 → opL L len ba k = opL K len ba k
  | 0, _ => rfl
  | k + 1, hk => by
    have ih := op_fz (len := len) (ba := ba) h k (by omega)
    funext t
    rw [opL_s, opL_s, ih]
    have hq : ∀ (J : SL) (x : Nat × Nat × Nat), x ∈ J → fits x.2.1 (5 - k) t = true → decide (tz6 x.2.1 = 5 - k) = true := by
      intro J x _ hx
      unfold fits at hx
      rw [Bool.and_eq_true] at hx
      exact hx.1
    rw [mnL_fil (L := L) (hq L), mnL_fil (L := K) (hq K)]
    show (if _ then _ else mnL _ _ _ (fz (5 - k) L)) = (if _ then _ else mnL _ _ _ (fz (5 - k) K))
    rw [h (5 - k) (by omega)]
/-- the lowest place that isn't in a set -/
def ff6 (s : Nat) : Nat := tz6 (63 - s % 64)
/-- the standings lie in the sentence -/
def LW (len : Nat) (L : SL) : Prop := len ≤ 6 ∧ ∀ x ∈ L, 0 < x.2.1 ∧ x.2.1 < 2 ^ len
theorem LW.lt {len : Nat} {L : SL} (h : LW len L) {x : Nat × Nat × Nat} (hx : x ∈ L) : 0 < x.2.1 ∧ x.2.1 < 64 := ⟨(h.2 x hx).1, Nat.lt_of_lt_of_le (h.2 x hx).2 (Nat.pow_le_pow_right (by decide) h.1)⟩
theorem tz_len : ∀ n, n < 7 → ∀ s, s < 64 → (0 < s → s < 2 ^ n → tz6 s < n) := by decide +kernel
theorem op_0 {L : SL} {len ba : Nat} (h : LW len L) : ∀ k t, k ≤ 6 - len → opL L len ba k t = 0
  | 0, _, _ => rfl
  | k + 1, t, hk => by
    rw [opL_s]
    split
    · exact op_0 h k t (by omega)
    · rw [mnL_no, op_0 h k t (by omega), if_neg (by omega)]
      intro x hx
      have h1 := h.lt hx
      have h2 := tz_len len (by have := h.1; omega) x.2.1 h1.2 h1.1 (h.2 x hx).2
      unfold fits
      rw [decide_eq_false (by omega)]
      rfl
theorem tb_or : ∀ t, t < 64 → ∀ s, s < 64 → ∀ p, p < 6 → tb (t ||| s) p = (tb t p || tb s p) := by decide +kernel
theorem tb_pow : ∀ q, q < 6 → ∀ p, p < 6 → tb (2 ^ q) p = decide (p = q) := by decide +kernel
theorem fits_low : ∀ t, t < 64 → ∀ s, s < 64 → ∀ p, p < 6 → (tz6 s = p → ∀ q, q < p → (decide (s &&& (t ||| 2 ^ q) = 0) = decide (s &&& t = 0))) := by decide +kernel
theorem or_comm3 (a b c : Nat) : a ||| b ||| c = a ||| c ||| b := by rw [Nat.or_assoc, Nat.or_comm b c, ← Nat.or_assoc]
theorem op_low {L : SL} {len ba : Nat} (h : LW len L) {q : Nat} : ∀ k t, k ≤ 6 → q < 6 - k → t < 64 → opL L len ba k (t ||| 2 ^ q) = opL L len ba k t
  | 0, _, _, _, _ => rfl
  | k + 1, t, hk, hq, ht => by
    rw [opL_s, opL_s]
    have e1 : tb (t ||| 2 ^ q) (5 - k) = tb t (5 - k) := by
      rw [tb_or t ht _ (pow_lt64 (by omega)) (5 - k) (by omega), tb_pow q (by omega) (5 - k) (by omega), decide_eq_false (by omega), Bool.or_false]
    have ih := fun u hu => op_low (len := len) (ba := ba) h (q := q) k u (by omega) (by omega) hu
    simp only [e1]
    split
    · exact ih t ht
    · rw [ih t ht]
      refine mnL_congr (fun x hx => ?_)
      have h1 := h.lt hx
      have e2 : fits x.2.1 (5 - k) (t ||| 2 ^ q) = fits x.2.1 (5 - k) t := by
        unfold fits
        by_cases c : tz6 x.2.1 = 5 - k
        · rw [fits_low t ht x.2.1 h1.2 (5 - k) (by omega) c q (by omega)]
        · simp [c]
      refine ⟨e2, fun _ => ?_⟩
      rw [or_comm3, ih _ (or64 ht h1.2)]
theorem op_skip {L : SL} {len ba : Nat} {u a : Nat} (ha : a ≤ 6) : ∀ b, b ≤ a → (∀ j, b ≤ j → j < a → tb u j = true) → opL L len ba (6 - b) u = opL L len ba (6 - a) u := by
  intro b hb
  obtain ⟨d, rfl⟩ : ∃ d, a = b + d := ⟨a - b, by omega⟩
  induction d generalizing b with
  | zero => intro _; rfl
  | succ d ih =>
    intro h
    have e : 6 - b = (6 - (b + 1)) + 1 := by omega
    have e2 : 5 - (6 - (b + 1)) = b := by omega
    rw [e, opL_s, e2, if_pos (h b (Nat.le_refl _) (by omega))]
    have := ih (b + 1) (by omega) (by omega) (fun j h1 h2 => h j (by omega) (by omega))
    rw [show b + 1 + d = b + (d + 1) by omega] at this
    exact this
/-- what the set's rest costs -/
def bM (L : SL) (len ba u : Nat) : Nat := opL L len ba (6 - ff6 u) u
theorem ff_tb : ∀ u, u < 64 → (∀ j, j < ff6 u → j < 6 → tb u j = true) ∧ (ff6 u < 6 → tb u (ff6 u) = false) ∧ (ff6 u < 7 ∨ ff6 u = 32) := by decide +kernel
theorem ff_all : ∀ n, n < 6 → ff6 (2 ^ n - 1) = n := by decide +kernel
theorem ff_lt : ∀ n, n < 7 → ∀ u, u < 64 → (u < 2 ^ n - 1 → ff6 u < n) := by decide +kernel
theorem bM_skip {L : SL} {len ba u b : Nat} (hu : u < 64) (hb : b ≤ ff6 u) (hb6 : b ≤ 6) : opL L len ba (6 - b) u = bM L len ba u := by
  unfold bM
  obtain ⟨h1, h2, h3⟩ := ff_tb u hu
  rcases Nat.lt_or_ge 6 (ff6 u) with q | q
  · rw [show 6 - ff6 u = 6 - 6 by omega]
    exact op_skip (Nat.le_refl 6) b hb6 (fun j _ hj => h1 j (by omega) hj)
  · exact op_skip q b hb (fun j _ hj => h1 j hj (by omega))
theorem ff_63 : ff6 63 = 32 := by decide
theorem bM_all {L : SL} {len ba : Nat} (h : LW len L) : bM L len ba (2 ^ len - 1) = 0 := by
  unfold bM
  rcases Nat.lt_or_ge len 6 with q | q
  · rw [ff_all len q]
    exact op_0 h _ _ (Nat.le_refl _)
  · have e : len = 6 := by have := h.1; omega
    subst e
    rfl
theorem ff_or : ∀ u, u < 64 → ∀ s, s < 64 → (ff6 u < 6 → tb s (ff6 u) = true → ff6 u < ff6 (u ||| s)) := by decide +kernel
theorem can_fit : ∀ u, u < 64 → ∀ s, s < 64 → (0 < s → ff6 u < 6 → (tb s (ff6 u) && decide (s &&& u = 0)) = fits s (ff6 u) u) := by decide +kernel
/-- a standing that can be taken at a place -/
def can (place set : Nat) (x : Nat × Nat × Nat) : Bool := tb x.2.1 place && decide (x.2.1 &&& set = 0)
theorem bM_step {L : SL} {len ba u : Nat} (h : LW len L) (hu : u < 64) (hf : ff6 u < len) : bM L len ba u = mnL (can (ff6 u) u) (fun x => x.2.2 + bM L len ba (u ||| x.2.1)) (ba + bM L len ba (u ||| 2 ^ ff6 u)) L := by
  have hl := h.1
  have e : 6 - ff6 u = (5 - ff6 u) + 1 := by omega
  have e2 : 5 - (5 - ff6 u) = ff6 u := by omega
  have hn : tb u (ff6 u) = false := (ff_tb u hu).2.1 (by omega)
  have hp := pow_lt64 (i := ff6 u) (by omega)
  unfold bM
  rw [e, opL_s, e2, if_neg (by rw [hn]; decide), if_pos hf]
  have h6 : 5 - ff6 u = 6 - (ff6 u + 1) := by omega
  have k1 : opL L len ba (5 - ff6 u) u = opL L len ba (6 - ff6 (u ||| 2 ^ ff6 u)) (u ||| 2 ^ ff6 u) := by
    rw [← op_low h (q := ff6 u) (5 - ff6 u) u (by omega) (by omega) hu, h6]
    exact bM_skip (or64 hu hp) (ff_or u hu _ hp (by omega) (by rw [tb_pow _ (by omega) _ (by omega)]; simp)) (by omega)
  rw [k1]
  refine mnL_congr (fun x hx => ?_)
  have h1 := h.lt hx
  have c := can_fit u hu x.2.1 h1.2 h1.1 (by omega)
  refine ⟨c.symm, fun hx2 => ?_⟩
  rw [h6]
  show x.2.2 + _ = x.2.2 + bM L len ba (u ||| x.2.1)
  rw [bM_skip (or64 hu h1.2) (ff_or u hu _ h1.2 (by omega) (by rw [← c, Bool.and_eq_true] at hx2; exact hx2.1)) (by omega)]
theorem op_le {L : SL} {len ba : Nat} (hb : ba ≤ 50) : ∀ k t, opL L len ba k t ≤ 50 * k
  | 0, _ => Nat.le_refl _
  | k + 1, t => by
    have h := op_le (L := L) (len := len) hb k t
    rw [opL_s]
    split
    · omega
    · refine Nat.le_trans mnL_le ?_
      split <;> omega
theorem bM_le {L : SL} {len ba u : Nat} (hb : ba ≤ 50) : bM L len ba u ≤ 300 := by
  have h := op_le (L := L) (len := len) hb (6 - ff6 u) u
  unfold bM
  omega
