/-! ===== the chosen cover, the class's and the reference's ===== -/
theorem fd_congr {α : Type} {f g : α → Bool} : ∀ {L : List α}, (∀ x ∈ L, f x = g x) → L.find? f = L.find? g
  | [], _ => rfl
  | x :: xs, h => by
    rw [List.find?_cons, List.find?_cons, h x List.mem_cons_self, fd_congr (fun y hy => h y (List.mem_cons_of_mem _ hy))]
theorem fd_fil {α : Type} {f q : α → Bool} : ∀ {L : List α}, (∀ x ∈ L, f x = true → q x = true) → L.find? f = (L.filter q).find? f
  | [], _ => rfl
  | x :: xs, h => by
    have ih := fd_fil (f := f) (q := q) (L := xs) (fun y hy => h y (List.mem_cons_of_mem _ hy))
    rw [List.filter_cons]
    by_cases c : q x = true
    · rw [if_pos c, List.find?_cons, List.find?_cons, ih]
    · have hx : f x = false := by
        cases d : f x with
        | true => exact absurd (h x List.mem_cons_self d) c
        | false => rfl
      rw [if_neg c, List.find?_cons, hx, ih]
theorem fd_app {α : Type} {f : α → Bool} : ∀ {L K : List α}, (L ++ K).find? f = match L.find? f with
    | some x => some x
    | none => K.find? f
  | [], _ => rfl
  | x :: xs, K => by
    rw [List.cons_append, List.find?_cons, List.find?_cons]
    cases f x with
    | true => rfl
    | false => exact fd_app
theorem fd_some {α : Type} {f : α → Bool} {x : α} : ∀ {L : List α}, L.find? f = some x → x ∈ L ∧ f x = true := fun h => ⟨List.mem_of_find?_eq_some h, List.find?_some h⟩
theorem firstB_find {L : SL} {cnt : Nat} {fn fp fr : Nat → Nat} (h : stOK L cnt fn fp fr) {B : Nat → Bool} {P : Nat × Nat × Nat → Bool} (hB : ∀ j, j < cnt → B j = P (fn j, fp j, fr j)) : ∀ i, i ≤ cnt → (firstB B i).map (fun j => (fn j, fp j, fr j)) = (L.take i).find? P
  | 0, _ => rfl
  | i + 1, hi => by
    have e : L.take (i + 1) = L.take i ++ [(fn i, fp i, fr i)] := by
      rw [List.take_add_one, (stOK_get h (by omega)).2]; rfl
    have ih := firstB_find h hB i (by omega)
    rw [e, fd_app, ← ih, firstB]
    cases firstB B i with
    | some j => rfl
    | none =>
      simp only [Option.map_none, List.find?_cons, List.find?_nil, hB i (by omega)]
      cases P (fn i, fp i, fr i) <;> rfl
/-- the first standing by number and places that a best cover has here -/
def bfP (L : SL) (len ba i t : Nat) (x : Nat × Nat × Nat) : Bool := fits x.2.1 i t && decide (x.2.2 + opL L len ba (5 - i) (t ||| x.2.1) = opL L len ba (6 - i) t)
def bfL (L : SL) (len ba i t : Nat) : Option (Nat × Nat × Nat) := L.find? (bfP L len ba i t)
def cT (L : SL) (len ba : Nat) : Nat → Nat
  | 0 => 0
  | i + 1 => if tb (cT L len ba i) i = true then cT L len ba i else match bfL L len ba i (cT L len ba i) with
    | none => cT L len ba i
    | some x => cT L len ba i ||| x.2.1
def cP (L : SL) (len ba : Nat) : Nat → Nat → Option (Nat × Nat × Nat)
  | 0, _ => none
  | i + 1, j => if tb (cT L len ba i) i = true then cP L len ba i j else match bfL L len ba i (cT L len ba i) with
    | none => cP L len ba i j
    | some x => if tb x.2.1 j = true then some x else cP L len ba i j
section CS
variable {L : SL} {len ba : Nat}
theorem cT_t {i : Nat} (h : tb (cT L len ba i) i = true) : cT L len ba (i + 1) = cT L len ba i := by rw [cT, if_pos h]
theorem cT_0 {i : Nat} (h : tb (cT L len ba i) i = false) (hb : bfL L len ba i (cT L len ba i) = none) : cT L len ba (i + 1) = cT L len ba i := by rw [cT, if_neg (by rw [h]; decide), hb]
theorem cT_1 {i : Nat} {x : Nat × Nat × Nat} (h : tb (cT L len ba i) i = false) (hb : bfL L len ba i (cT L len ba i) = some x) : cT L len ba (i + 1) = cT L len ba i ||| x.2.1 := by rw [cT, if_neg (by rw [h]; decide), hb]
theorem cP_t {i j : Nat} (h : tb (cT L len ba i) i = true) : cP L len ba (i + 1) j = cP L len ba i j := by rw [cP, if_pos h]
theorem cP_0 {i j : Nat} (h : tb (cT L len ba i) i = false) (hb : bfL L len ba i (cT L len ba i) = none) : cP L len ba (i + 1) j = cP L len ba i j := by rw [cP, if_neg (by rw [h]; decide), hb]
theorem cP_1 {i j : Nat} {x : Nat × Nat × Nat} (h : tb (cT L len ba i) i = false) (hb : bfL L len ba i (cT L len ba i) = some x) : cP L len ba (i + 1) j = if tb x.2.1 j = true then some x else cP L len ba i j := by rw [cP, if_neg (by rw [h]; decide), hb]
theorem cT_lt (hL : L64 L) : ∀ i, cT L len ba i < 64
  | 0 => by show 0 < 64; decide
  | i + 1 => by
    have h := cT_lt hL i
    cases c : tb (cT L len ba i) i with
    | true => rw [cT_t c]; exact h
    | false =>
      cases d : bfL L len ba i (cT L len ba i) with
      | none => rw [cT_0 c d]; exact h
      | some x => rw [cT_1 c d]; exact or64 h (hL x (fd_some d).1).2
theorem cP_in (hL : L64 L) : ∀ {i j : Nat} {x : Nat × Nat × Nat}, cP L len ba i j = some x → x ∈ L ∧ tb x.2.1 j = true
  | 0, _, _, h => by cases h
  | i + 1, j, x, h => by
    cases c : tb (cT L len ba i) i with
    | true => rw [cP_t c] at h; exact cP_in hL h
    | false =>
      cases d : bfL L len ba i (cT L len ba i) with
      | none => rw [cP_0 c d] at h; exact cP_in hL h
      | some y =>
        rw [cP_1 c d] at h
        split at h
        · rename_i q
          cases h
          exact ⟨(fd_some d).1, q⟩
        · exact cP_in hL h
theorem cP_no (hL : L64 L) : ∀ {i j : Nat}, j < 6 → tb (cT L len ba i) j = false → cP L len ba i j = none
  | 0, _, _, _ => rfl
  | i + 1, j, hj, h => by
    cases c : tb (cT L len ba i) i with
    | true => rw [cT_t c] at h; rw [cP_t c]; exact cP_no hL hj h
    | false =>
      cases d : bfL L len ba i (cT L len ba i) with
      | none => rw [cT_0 c d] at h; rw [cP_0 c d]; exact cP_no hL hj h
      | some y =>
        rw [cT_1 c d, tb_or _ (cT_lt hL i) _ (hL y (fd_some d).1).2 j hj, Bool.or_eq_false_iff] at h
        rw [cP_1 c d, if_neg (by rw [h.2]; decide)]
        exact cP_no hL hj h.1
theorem c_skip {a : Nat} : ∀ b, a ≤ b → (∀ j, a ≤ j → j < b → tb (cT L len ba a) j = true) → cT L len ba b = cT L len ba a ∧ ∀ j, cP L len ba b j = cP L len ba a j := by
  intro b hb
  obtain ⟨d, rfl⟩ : ∃ d, b = a + d := ⟨b - a, by omega⟩
  induction d with
  | zero => exact fun _ => ⟨rfl, fun _ => rfl⟩
  | succ d ih =>
    intro h
    obtain ⟨h1, h2⟩ := ih (by omega) (fun j q1 q2 => h j q1 (by omega))
    have c : tb (cT L len ba (a + d)) (a + d) = true := by rw [h1]; exact h _ (by omega) (by omega)
    exact ⟨by rw [← Nat.add_assoc, cT_t c, h1], fun j => by rw [← Nat.add_assoc, cP_t c, h2]⟩
theorem bf_end (h : LW len L) {i t : Nat} (hi : len ≤ i) : bfL L len ba i t = none := by
  unfold bfL
  rw [List.find?_eq_none]
  intro x hx
  have h1 := h.lt hx
  have h2 := tz_len len (by have := h.1; omega) x.2.1 h1.2 h1.1 (h.2 x hx).2
  unfold bfP fits
  rw [decide_eq_false (by omega)]
  simp
theorem cP_end (h : LW len L) {j : Nat} : ∀ d, cP L len ba (len + d) j = cP L len ba len j
  | 0 => rfl
  | d + 1 => by
    rw [← Nat.add_assoc]
    cases c : tb (cT L len ba (len + d)) (len + d) with
    | true => rw [cP_t c, cP_end h d]
    | false => rw [cP_0 c (bf_end h (by omega)), cP_end h d]
theorem cP_6 (h : LW len L) (j : Nat) : cP L len ba 6 j = cP L len ba len j := by
  have := h.1
  have e := cP_end (ba := ba) h (j := j) (6 - len)
  rw [show len + (6 - len) = 6 by omega] at e
  exact e
end CS
/-! the class -/
theorem mkP_at {pk : Nat → Option Nat} {s : Nat} {ix : Option Nat} : ∀ n j, mkP pk s ix n j = if j < n ∧ tb s j = true then ix else pk j
  | 0, j => by simp [mkP]
  | n + 1, j => by
    have h := mkP_at (pk := pk) (s := s) (ix := ix) n
    rw [mkP]
    by_cases c : tb s n = true
    · rw [if_pos c]
      show (if j = n then ix else mkP pk s ix n j) = _
      by_cases e : j = n
      · subst e; simp [c]
      · have q : (j < n + 1) = (j < n) := propext (by omega)
        rw [if_neg e, h]
        simp only [q]
    · rw [if_neg c, h]
      by_cases e : j = n
      · subst e; simp [c]
      · have q : (j < n + 1) = (j < n) := propext (by omega)
        simp only [q]
theorem ch_class {L : SL} {cnt : Nat} {fn fp fr : Nat → Nat} {M : Nat → Nat → Nat} {len ba : Nat} (h : stOK L cnt fn fp fr) (hL : L64 L) (hM : ∀ k, k ≤ 6 → ∀ u, u < 64 → M (6 - k) u = optR fp fr cnt len ba k u) : ∀ i, i ≤ 6 → chT M fp fr cnt i = cT L len ba i ∧ ∀ j, j < 6 → (chP M fp fr cnt i j).map (fun q => (fn q, fp q, fr q)) = cP L len ba i j
  | 0, _ => ⟨rfl, fun _ _ => rfl⟩
  | i + 1, hi => by
    obtain ⟨h1, h2⟩ := ch_class (len := len) (ba := ba) h hL hM i (by omega)
    have ht := cT_lt (len := len) (ba := ba) hL i
    have hm : ∀ k, k ≤ 6 → ∀ u, u < 64 → M (6 - k) u = opL L len ba k u := fun k hk u hu => by rw [hM k hk u hu, op_class h]
    have hb : (bfAt M fp fr cnt i (cT L len ba i)).map (fun q => (fn q, fp q, fr q)) = bfL L len ba i (cT L len ba i) := by
      unfold bfAt bfL
      have e := firstB_find h (B := bP (M (i + 1)) fp fr i (cT L len ba i) (M i (cT L len ba i))) (P := bfP L len ba i (cT L len ba i)) (fun j hj => by
        have hx := hL _ (stOK_get h hj).1
        have m1 := hm (5 - i) (by omega) (cT L len ba i ||| fp j) (or64 ht hx.2)
        have m2 := hm (6 - i) (by omega) (cT L len ba i) ht
        rw [show 6 - (5 - i) = i + 1 by omega] at m1
        rw [show 6 - (6 - i) = i by omega] at m2
        unfold bP bfP
        rw [m1, m2]) cnt (Nat.le_refl _)
      rw [List.take_of_length_le (by rw [h.1]; exact Nat.le_refl _)] at e
      exact e
    cases c : tb (cT L len ba i) i with
    | true =>
      have c2 : tb (chT M fp fr cnt i) i = true := by rw [h1]; exact c
      exact ⟨by rw [chT_t c2, cT_t c, h1], fun j hj => by rw [chP_t c2, cP_t c, h2 j hj]⟩
    | false =>
      have c2 : ¬ tb (chT M fp fr cnt i) i = true := by rw [h1, c]; decide
      cases d : bfAt M fp fr cnt i (cT L len ba i) with
      | none =>
        rw [d] at hb
        have d2 : bfAt M fp fr cnt i (chT M fp fr cnt i) = none := by rw [h1]; exact d
        exact ⟨by rw [chT_0 c2 d2, cT_0 c hb.symm, h1], fun j hj => by rw [chP_0 c2 d2, cP_0 c hb.symm, h2 j hj]⟩
      | some x =>
        rw [d] at hb
        have d2 : bfAt M fp fr cnt i (chT M fp fr cnt i) = some x := by rw [h1]; exact d
        refine ⟨by rw [chT_1 c2 d2, cT_1 c hb.symm, h1], fun j hj => ?_⟩
        rw [chP_1 c2 d2, cP_1 c hb.symm, mkP_at, ← h2 j hj]
        by_cases q : tb (fp x) j = true
        · rw [if_pos ⟨hj, q⟩, if_pos q]; rfl
        · rw [if_neg (fun z => q z.2), if_neg q]
theorem bf_fz {L K : SL} {len ba i t : Nat} (h : ∀ p, p < 6 → fz p L = fz p K) (hi : i < 6) : bfL L len ba i t = bfL K len ba i t := by
  unfold bfL
  have e : bfP L len ba i t = bfP K len ba i t := by
    unfold bfP
    rw [op_fz h (5 - i) (by omega), op_fz h (6 - i) (by omega)]
  have hq : ∀ (J : SL) (x : Nat × Nat × Nat), x ∈ J → bfP K len ba i t x = true → decide (tz6 x.2.1 = i) = true := by
    intro J x _ hx
    unfold bfP fits at hx
    rw [Bool.and_eq_true, Bool.and_eq_true] at hx
    exact hx.1.1
  rw [e, fd_fil (L := L) (hq L), fd_fil (L := K) (hq K)]
  show (fz i L).find? _ = (fz i K).find? _
  rw [h i hi]
theorem c_fz {L K : SL} {len ba : Nat} (h : ∀ p, p < 6 → fz p L = fz p K) : ∀ i, i ≤ 6 → cT L len ba i = cT K len ba i ∧ ∀ j, cP L len ba i j = cP K len ba i j
  | 0, _ => ⟨rfl, fun _ => rfl⟩
  | i + 1, hi => by
    obtain ⟨h1, h2⟩ := c_fz (len := len) (ba := ba) h i (by omega)
    have hb := bf_fz (len := len) (ba := ba) (t := cT K len ba i) h (show i < 6 by omega)
    refine ⟨?_, fun j => ?_⟩
    · rw [cT, cT, h1, hb]
    · rw [cP, cP, h1, hb, h2]
/-! the reference -/
theorem low_s : ∀ q, q < 6 → ∀ t, t < 64 → t ||| (2 ^ (q + 1) - 1) = t ||| (2 ^ q - 1) ||| 2 ^ q := by decide +kernel
theorem low_0 (t : Nat) : t ||| (2 ^ 0 - 1) = t := Nat.or_zero t
theorem low_lt : ∀ q, q < 7 → 2 ^ q - 1 < 64 := by decide
theorem op_lows {L : SL} {len ba : Nat} (h : LW len L) {k t : Nat} (hk : k ≤ 6) (ht : t < 64) : ∀ q, q ≤ 6 - k → opL L len ba k (t ||| (2 ^ q - 1)) = opL L len ba k t
  | 0, _ => by rw [low_0]
  | q + 1, hq => by rw [low_s q (by omega) t ht, op_low h k _ hk (by omega) (or64 ht (low_lt q (by omega))), op_lows h hk ht q (by omega)]
theorem can_low : ∀ t, t < 64 → ∀ s, s < 64 → ∀ i, i < 6 → (0 < s → (tb s i && decide (s &&& (t ||| (2 ^ i - 1)) = 0)) = fits s i t) := by decide +kernel
/-- the reference's choice for a place -/
def mcP (L : SL) (len ba place set : Nat) (x : Nat × Nat × Nat) : Bool := can place set x && decide (x.2.2 + bM L len ba (set ||| x.2.1) = bM L len ba set)
def mcL (L : SL) (len ba place set : Nat) : Option (Nat × Nat × Nat) := L.find? (mcP L len ba place set)
def fg6 (u : Nat) : Nat := min (ff6 u) 6
theorem fg_tb : ∀ u, u < 64 → (∀ j, j < fg6 u → tb u j = true) ∧ (fg6 u < 6 → tb u (fg6 u) = false ∧ ff6 u = fg6 u) := by
  intro u hu
  obtain ⟨h1, h2, -⟩ := ff_tb u hu
  unfold fg6
  refine ⟨fun j hj => h1 j (by omega) (by omega), fun hj => ?_⟩
  rw [show min (ff6 u) 6 = ff6 u by omega]
  exact ⟨h2 (by omega), rfl⟩
theorem mc_bf {L : SL} {len ba t set : Nat} (h : LW len L) (ht : t < 64) (hset : set = t ||| (2 ^ fg6 set - 1)) (hi : fg6 set < 6) (hu : set < 64) : mcL L len ba (fg6 set) set = bfL L len ba (fg6 set) t := by
  obtain ⟨-, q⟩ := fg_tb set hu
  obtain ⟨q1, q2⟩ := q hi
  refine fd_congr (fun x hx => ?_)
  have h1 := h.lt hx
  have e1 : can (fg6 set) set x = fits x.2.1 (fg6 set) t := by
    have e := can_low t ht x.2.1 h1.2 (fg6 set) hi h1.1
    rw [← hset] at e
    exact e
  have e2 : bM L len ba set = opL L len ba (6 - fg6 set) t := by
    have e := op_lows (ba := ba) h (k := 6 - fg6 set) (t := t) (by omega) ht (fg6 set) (by omega)
    rw [← hset] at e
    rw [← e, bM, q2]
  unfold mcP bfP
  rw [e1, e2]
  cases c : fits x.2.1 (fg6 set) t with
  | false => rfl
  | true =>
    have c1 := c
    rw [← e1] at c1
    unfold can at c1
    rw [Bool.and_eq_true] at c1
    have e3 : bM L len ba (set ||| x.2.1) = opL L len ba (5 - fg6 set) (t ||| x.2.1) := by
      have k1 := bM_skip (L := L) (len := len) (ba := ba) (u := set ||| x.2.1) (b := fg6 set + 1) (or64 hu h1.2) (by
        have := ff_or set hu x.2.1 h1.2 (by omega) (by rw [q2]; exact c1.1)
        omega) (by omega)
      have k2 := op_lows (ba := ba) h (k := 5 - fg6 set) (t := t ||| x.2.1) (by omega) (or64 ht h1.2) (fg6 set) (by omega)
      rw [show 6 - (fg6 set + 1) = 5 - fg6 set by omega] at k1
      rw [← k1, ← k2, or_comm3, ← hset]
    rw [e3]
/-- what the reference's second loop keeps -/
def MI (L : SL) (len ba set : Nat) (gl : Nat → Option Nat) (st : Nat → Nat) : Prop := set = cT L len ba (fg6 set) ||| (2 ^ fg6 set - 1) ∧ ∀ j, j < 6 → tb set j = true → gl j = (cP L len ba (fg6 set) j).map (fun x => x.1) ∧ st j = ((cP L len ba (fg6 set) j).map (fun x => x.2.1)).getD 0
theorem MI_0 {L : SL} {len ba : Nat} {gl : Nat → Option Nat} {st : Nat → Nat} : MI L len ba 0 gl st := by
  have e : fg6 0 = 0 := by decide
  refine ⟨by rw [e, low_0]; rfl, fun j hj h => ?_⟩
  rw [tb_0] at h; cases h
theorem low_eq : ∀ b, b < 7 → ∀ a, a ≤ b → ∀ t, t < 64 → ((∀ j, j < b → a ≤ j → tb t j = true) → t ||| (2 ^ a - 1) = t ||| (2 ^ b - 1)) := by decide +kernel
theorem fg_gt : ∀ u, u < 64 → ∀ s, s < 64 → (fg6 u < 6 → tb s (fg6 u) = true → fg6 u < fg6 (u ||| s)) := by decide +kernel
theorem tb_low : ∀ q, q < 7 → ∀ j, j < 6 → tb (2 ^ q - 1) j = decide (j < q) := by decide +kernel
def mcS (o : Option (Nat × Nat × Nat)) (p : Nat) : Nat := match o with
  | none => 2 ^ p
  | some x => x.2.1
def nxT (o : Option (Nat × Nat × Nat)) (t : Nat) : Nat := match o with
  | none => t
  | some x => t ||| x.2.1
def nxP (o c : Option (Nat × Nat × Nat)) (j : Nat) : Option (Nat × Nat × Nat) := match o with
  | none => c
  | some x => if tb x.2.1 j = true then some x else c
theorem MI_step {L : SL} {len ba set : Nat} {gl gl' : Nat → Option Nat} {st st' : Nat → Nat} (h : LW len L) (hu : set < 64) (hf : fg6 set < 6) (H : MI L len ba set gl st) {o : Option (Nat × Nat × Nat)} (ho : mcL L len ba (fg6 set) set = o) {s : Nat} (hs : s = mcS o (fg6 set)) (hg : ∀ j, j < 6 → tb s j = true → gl' j = o.map (fun x => x.1) ∧ st' j = (o.map (fun x => x.2.1)).getD 0) (hk : ∀ j, j < 6 → tb s j = false → gl' j = gl j ∧ st' j = st j) : MI L len ba (set ||| s) gl' st' := by
  obtain ⟨H1, H2⟩ := H
  have hL : L64 L := fun x hx => h.lt hx
  have ht := cT_lt (len := len) (ba := ba) hL (fg6 set)
  obtain ⟨hlow, hi⟩ := fg_tb set hu
  obtain ⟨hn, -⟩ := hi hf
  have hsl := low_lt (fg6 set) (by omega)
  have hnt : tb (cT L len ba (fg6 set)) (fg6 set) = false := by
    have hq : tb (cT L len ba (fg6 set) ||| (2 ^ fg6 set - 1)) (fg6 set) = false := by rw [← H1]; exact hn
    rw [tb_or _ ht _ hsl _ hf, Bool.or_eq_false_iff] at hq
    exact hq.1
  rw [mc_bf h ht H1 hf hu] at ho
  have h64 : s < 64 ∧ tb s (fg6 set) = true := by
    cases o with
    | none => have hs : s = 2 ^ fg6 set := hs; subst hs; exact ⟨pow_lt64 hf, by rw [tb_pow _ hf _ hf]; simp⟩
    | some x =>
      have hs : s = x.2.1 := hs
      subst hs
      obtain ⟨h1, h2⟩ := fd_some ho
      refine ⟨(hL x h1).2, ?_⟩
      unfold bfP fits at h2
      rw [Bool.and_eq_true, Bool.and_eq_true, decide_eq_true_eq] at h2
      exact (tb_tz x.2.1 (hL x h1).2 _ hf).1 h2.1.1
  have hgt := fg_gt set hu s h64.1 hf h64.2
  have hu2 := or64 hu h64.1
  obtain ⟨hlow2, -⟩ := fg_tb (set ||| s) hu2
  have hb6 : fg6 (set ||| s) ≤ 6 := Nat.min_le_right _ _
  -- what is taken then, and by which
  have hT : cT L len ba (fg6 set + 1) = nxT o (cT L len ba (fg6 set)) ∧ ∀ j, cP L len ba (fg6 set + 1) j = nxP o (cP L len ba (fg6 set) j) j := by
    cases o with
    | none => exact ⟨cT_0 hnt ho, fun j => cP_0 hnt ho⟩
    | some x => exact ⟨cT_1 hnt ho, fun j => cP_1 hnt ho⟩
  have ht1 := cT_lt (len := len) (ba := ba) hL (fg6 set + 1)
  have hbits : ∀ j, fg6 set + 1 ≤ j → j < fg6 (set ||| s) → tb (cT L len ba (fg6 set + 1)) j = true := by
    intro j h1 h2
    have h3 := hlow2 j h2
    rw [tb_or _ hu _ h64.1 j (by omega)] at h3
    have h5 : tb (cT L len ba (fg6 set) ||| (2 ^ fg6 set - 1)) j = tb set j := by rw [← H1]
    rw [tb_or _ ht _ hsl j (by omega), tb_low _ (by omega) j (by omega), decide_eq_false (by omega), Bool.or_false] at h5
    rw [← h5] at h3
    rw [hT.1]
    cases o with
    | none =>
      have hs : s = 2 ^ fg6 set := hs
      subst hs
      rw [tb_pow _ hf j (by omega), decide_eq_false (by omega), Bool.or_false] at h3
      exact h3
    | some x =>
      have hs : s = x.2.1 := hs
      subst hs
      show tb (_ ||| _) j = true
      rw [tb_or _ ht _ h64.1 j (by omega)]
      exact h3
  obtain ⟨k1, k2⟩ := c_skip (fg6 (set ||| s)) (by omega) hbits
  refine ⟨?_, fun j hj hj2 => ?_⟩
  · rw [k1]
    cases o with
    | none =>
      have hs : s = 2 ^ fg6 set := hs
      subst hs
      have e := low_eq (fg6 (set ||| 2 ^ fg6 set)) (by omega) (fg6 set + 1) (by omega) _ ht1 (fun j h1 h2 => hbits j h2 h1)
      rw [← e, hT.1]
      show _ = cT L len ba (fg6 set) ||| (2 ^ (fg6 set + 1) - 1)
      rw [low_s _ hf _ ht, ← H1]
    | some x =>
      have hs : s = x.2.1 := hs
      subst hs
      have e := low_eq (fg6 (set ||| x.2.1)) (by omega) (fg6 set) (by omega) _ ht1 (fun j h1 h2 => by
        rcases Nat.lt_or_ge (fg6 set) j with q | q
        · exact hbits j q h1
        · have q2 : j = fg6 set := by omega
          rw [q2, hT.1]
          show tb (_ ||| _) _ = true
          rw [tb_or _ ht _ h64.1 _ hf, h64.2, Bool.or_true])
      rw [← e, hT.1]
      show _ = _ ||| _ ||| _
      rw [or_comm3, ← H1]
  · rw [k2 j, hT.2 j]
    cases c : tb s j with
    | true =>
      obtain ⟨g1, g2⟩ := hg j hj c
      cases o with
      | none =>
        have hs : s = 2 ^ fg6 set := hs
        subst hs
        rw [tb_pow _ hf j hj, decide_eq_true_eq] at c
        subst c
        rw [g1, g2]
        show _ = (cP L len ba (fg6 set) (fg6 set)).map _ ∧ _ = ((cP L len ba (fg6 set) (fg6 set)).map _).getD 0
        rw [cP_no hL hf hnt]
        exact ⟨rfl, rfl⟩
      | some x =>
        have hs : s = x.2.1 := hs
        subst hs
        rw [g1, g2]
        show _ = (if tb x.2.1 j = true then some x else _).map _ ∧ _ = ((if tb x.2.1 j = true then some x else _).map _).getD 0
        rw [if_pos c]
        exact ⟨rfl, rfl⟩
    | false =>
      obtain ⟨g1, g2⟩ := hk j hj c
      rw [tb_or _ hu _ h64.1 j hj, c, Bool.or_false] at hj2
      obtain ⟨r1, r2⟩ := H2 j hj hj2
      rw [g1, g2]
      cases o with
      | none => exact ⟨r1, r2⟩
      | some x =>
        have hs : s = x.2.1 := hs
        subst hs
        show _ = (if tb x.2.1 j = true then some x else _).map _ ∧ _ = ((if tb x.2.1 j = true then some x else _).map _).getD 0
        rw [if_neg (by rw [c]; decide)]
        exact ⟨r1, r2⟩
theorem fg_all : ∀ n, n < 7 → fg6 (2 ^ n - 1) = n := by decide +kernel
theorem MI_end {L : SL} {len ba : Nat} {gl : Nat → Option Nat} {st : Nat → Nat} (h : LW len L) (H : MI L len ba (2 ^ len - 1) gl st) : ∀ j, j < len → gl j = (cP L len ba 6 j).map (fun x => x.1) ∧ st j = ((cP L len ba 6 j).map (fun x => x.2.1)).getD 0 := by
  intro j hj
  have hl := h.1
  have e := H.2 j (by omega) (by rw [tb_low len (by omega) j (by omega), decide_eq_true hj])
  rw [fg_all len (by omega)] at e
  rw [cP_6 h]
  exact e
/-- does an entry's number stand among the first k of the row -/
def inG (gl : Nat → Option Nat) (e : Nat) : Nat → Bool
  | 0 => false
  | k + 1 => inG gl e k || decide (gl k = some e)
theorem inG_congr {gl gl' : Nat → Option Nat} {e : Nat} : ∀ {k : Nat}, (∀ j, j < k → gl j = gl' j) → inG gl e k = inG gl' e k
  | 0, _ => rfl
  | k + 1, h => by rw [inG, inG, inG_congr (fun j hj => h j (by omega)), h k (by omega)]
theorem inG_more {gl : Nat → Option Nat} {e a : Nat} (h : ∀ j, a ≤ j → gl j = none) : ∀ {b : Nat}, a ≤ b → inG gl e b = inG gl e a
  | 0, hb => by rw [Nat.le_zero.mp hb]
  | b + 1, hb => by
    rcases Nat.lt_or_ge a (b + 1) with q | q
    · rw [inG, h b (by omega), inG_more h (by omega)]
      simp
    · rw [show a = b + 1 by omega]
theorem inC_G {fn : Nat → Nat} {pk : Nat → Option Nat} {e : Nat} {gl : Nat → Option Nat} (h : ∀ j, j < 6 → gl j = (pk j).map fn) : inC fn pk e = inG gl e 6 := by
  have hp : ∀ j, j < 6 → inP fn pk e j = decide (gl j = some e) := by
    intro j hj
    rw [h j hj]
    unfold inP
    cases pk j with
    | none => rfl
    | some x => simp
  unfold inC
  simp only [inG, hp 0 (by decide), hp 1 (by decide), hp 2 (by decide), hp 3 (by decide), hp 4 (by decide), hp 5 (by decide), Bool.false_or]
