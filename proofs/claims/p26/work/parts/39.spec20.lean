/-! ===== the chosen cover: its standings agree, its cost is the least ===== -/
theorem mnL_att {g : Nat × Nat × Nat → Bool} {v : Nat × Nat × Nat → Nat} : ∀ {b : Nat} {L : SL}, mnL g v b L = b ∨ ∃ x ∈ L, g x = true ∧ mnL g v b L = v x
  | _, [] => Or.inl rfl
  | b, x :: xs => by
    rw [mnL]
    by_cases c : g x = true
    · rw [if_pos c]
      rcases mnL_att (g := g) (v := v) (b := min b (v x)) (L := xs) with h | ⟨y, h1, h2, h3⟩
      · rcases Nat.le_total b (v x) with q | q
        · left; rw [h, Nat.min_eq_left q]
        · right; exact ⟨x, List.mem_cons_self, c, by rw [h, Nat.min_eq_right q]⟩
      · exact Or.inr ⟨y, List.mem_cons_of_mem _ h1, h2, h3⟩
    · rw [if_neg c]
      rcases mnL_att (g := g) (v := v) (b := b) (L := xs) with h | ⟨y, h1, h2, h3⟩
      · exact Or.inl h
      · exact Or.inr ⟨y, List.mem_cons_of_mem _ h1, h2, h3⟩
/-- what the chosen cover costs at a place, by the choice's own step -/
def stC (L : SL) (len ba i : Nat) : Nat := if tb (cT L len ba i) i = true then 0 else match bfL L len ba i (cT L len ba i) with
  | none => if i < len then ba else 0
  | some x => x.2.2
section CC
variable {L : SL} {len ba : Nat}
theorem stC_t {i : Nat} (c : tb (cT L len ba i) i = true) : stC L len ba i = 0 := by unfold stC; rw [if_pos c]
theorem stC_n {i : Nat} (c : tb (cT L len ba i) i = false) (d : bfL L len ba i (cT L len ba i) = none) : stC L len ba i = if i < len then ba else 0 := by unfold stC; rw [if_neg (by rw [c]; decide), d]
theorem stC_s {i : Nat} {x : Nat × Nat × Nat} (c : tb (cT L len ba i) i = false) (d : bfL L len ba i (cT L len ba i) = some x) : stC L len ba i = x.2.2 := by unfold stC; rw [if_neg (by rw [c]; decide), d]
theorem op_step {i : Nat} (hi : i < 6) : opL L len ba (6 - i) (cT L len ba i) = stC L len ba i + opL L len ba (5 - i) (cT L len ba (i + 1)) := by
  have e : 6 - i = (5 - i) + 1 := by omega
  have e2 : 5 - (5 - i) = i := by omega
  cases c : tb (cT L len ba i) i with
  | true => rw [stC_t c, cT_t c, e, opL_s, e2, if_pos c, Nat.zero_add]
  | false =>
    have hn : ¬ tb (cT L len ba i) i = true := by rw [c]; decide
    cases d : bfL L len ba i (cT L len ba i) with
    | none =>
      rw [stC_n c d, cT_0 c d]
      have hno := List.find?_eq_none.mp d
      have hu : opL L len ba (6 - i) (cT L len ba i) = mnL (fun x => fits x.2.1 i (cT L len ba i)) (fun x => x.2.2 + opL L len ba (5 - i) (cT L len ba i ||| x.2.1)) ((if i < len then ba else 0) + opL L len ba (5 - i) (cT L len ba i)) L := by
        rw [e, opL_s, e2, if_neg hn]
      rcases mnL_att (g := fun x => fits x.2.1 i (cT L len ba i)) (v := fun x => x.2.2 + opL L len ba (5 - i) (cT L len ba i ||| x.2.1)) (b := (if i < len then ba else 0) + opL L len ba (5 - i) (cT L len ba i)) (L := L) with h | ⟨x, h1, h2, h3⟩
      · rw [hu]; exact h
      · exfalso
        refine hno x h1 ?_
        unfold bfP
        rw [hu, h3]
        simpa using h2
    | some x =>
      rw [stC_s c d, cT_1 c d]
      have h := (fd_some d).2
      unfold bfP at h
      rw [Bool.and_eq_true, decide_eq_true_eq] at h
      exact h.2.symm
theorem fits_s {s p t : Nat} (h : fits s p t = true) : tz6 s = p ∧ s &&& t = 0 := by
  unfold fits at h
  rw [Bool.and_eq_true, decide_eq_true_eq, decide_eq_true_eq] at h
  exact h
theorem bf_s {i t : Nat} {x : Nat × Nat × Nat} (d : bfL L len ba i t = some x) : x ∈ L ∧ tz6 x.2.1 = i ∧ x.2.1 &&& t = 0 := by
  have h := (fd_some d).2
  unfold bfP at h
  rw [Bool.and_eq_true] at h
  exact ⟨(fd_some d).1, fits_s h.1⟩
theorem cP_tb (h : LW len L) : ∀ {i j : Nat}, j < 6 → tb (cT L len ba i) j = true → ∃ x, cP L len ba i j = some x ∧ tz6 x.2.1 < i
  | 0, j, _, q => by
    rw [cT, tb_0] at q
    cases q
  | i + 1, j, hj, q => by
    cases c : tb (cT L len ba i) i with
    | true =>
      rw [cT_t c] at q
      rw [cP_t c]
      obtain ⟨x, h1, h2⟩ := cP_tb h hj q
      exact ⟨x, h1, by omega⟩
    | false =>
      cases d : bfL L len ba i (cT L len ba i) with
      | none =>
        rw [cT_0 c d] at q
        rw [cP_0 c d]
        obtain ⟨x, h1, h2⟩ := cP_tb h hj q
        exact ⟨x, h1, by omega⟩
      | some y =>
        obtain ⟨y1, y2, y3⟩ := bf_s d
        rw [cP_1 c d]
        cases f : tb y.2.1 j with
        | true => exact ⟨y, by rw [if_pos rfl], by omega⟩
        | false =>
          rw [cT_1 c d, tb_or _ (cT_lt (fun x hx => h.lt hx) i) _ (h.lt y1).2 j hj, f, Bool.or_false] at q
          rw [if_neg (by decide)]
          obtain ⟨x, h1, h2⟩ := cP_tb h hj q
          exact ⟨x, h1, by omega⟩
theorem cP_stay1 (h : LW len L) {i j : Nat} (hj : j < i) : cP L len ba (i + 1) j = cP L len ba i j := by
  cases c : tb (cT L len ba i) i with
  | true => rw [cP_t c]
  | false =>
    cases d : bfL L len ba i (cT L len ba i) with
    | none => rw [cP_0 c d]
    | some y =>
      obtain ⟨y1, y2, y3⟩ := bf_s d
      rw [cP_1 c d, if_neg]
      rw [(tz_tb _ (h.lt y1).2 (h.lt y1).1).2 j (by omega)]
      decide
theorem cP_stay (h : LW len L) {j : Nat} : ∀ d, cP L len ba (j + 1 + d) j = cP L len ba (j + 1) j
  | 0 => rfl
  | d + 1 => by rw [← Nat.add_assoc, cP_stay1 h (by omega), cP_stay h d]
theorem cP_6s (h : LW len L) {j : Nat} (hj : j < 6) : cP L len ba 6 j = cP L len ba (j + 1) j := by
  have e := cP_stay (ba := ba) h (j := j) (5 - j)
  rw [show j + 1 + (5 - j) = 6 by omega] at e
  exact e
theorem and_tbq : ∀ a, a < 64 → ∀ b, b < 64 → (a &&& b = 0 → ∀ j, j < 6 → (tb b j = true → tb a j = false)) := by decide +kernel
theorem cP_same (h : LW len L) : ∀ {i p : Nat} {x : Nat × Nat × Nat}, p < 6 → cP L len ba i p = some x → ∀ q, q < 6 → tb x.2.1 q = true → cP L len ba i q = some x
  | 0, _, _, _, e, _, _, _ => by cases e
  | i + 1, p, x, hp, e, q, hq, t => by
    cases c : tb (cT L len ba i) i with
    | true => rw [cP_t c] at e ⊢; exact cP_same h hp e q hq t
    | false =>
      cases d : bfL L len ba i (cT L len ba i) with
      | none => rw [cP_0 c d] at e ⊢; exact cP_same h hp e q hq t
      | some y =>
        obtain ⟨y1, y2, y3⟩ := bf_s d
        rw [cP_1 c d] at e ⊢
        cases f : tb y.2.1 p with
        | true =>
          rw [f, if_pos rfl] at e
          cases e
          rw [if_pos t]
        | false =>
          rw [f, if_neg (by decide)] at e
          have g := cP_same h hp e q hq t
          have k : tb (cT L len ba i) q = true := by
            cases k : tb (cT L len ba i) q with
            | true => rfl
            | false => rw [cP_no (fun x hx => h.lt hx) hq k] at g; cases g
          rw [and_tbq _ (h.lt y1).2 _ (cT_lt (fun x hx => h.lt hx) i) y3 q hq k, if_neg (by decide)]
          exact g
/-- what a place of the chosen cover costs, by what stands there -/
def lwC (L : SL) (len ba p : Nat) : Nat := match cP L len ba 6 p with
  | none => ba
  | some x => if x.2.1 &&& (2 ^ p - 1) = 0 then x.2.2 else 0
theorem lwC_n {p : Nat} (h : cP L len ba 6 p = none) : lwC L len ba p = ba := by unfold lwC; rw [h]
theorem lwC_s {p : Nat} {x : Nat × Nat × Nat} (h : cP L len ba 6 p = some x) : lwC L len ba p = if x.2.1 &&& (2 ^ p - 1) = 0 then x.2.2 else 0 := by unfold lwC; rw [h]
theorem low_and : ∀ s, s < 64 → ∀ p, p < 6 → (0 < s → (s &&& (2 ^ p - 1) = 0 ↔ p ≤ tz6 s)) := by decide +kernel
theorem lwC_st (h : LW len L) {p : Nat} (hp : p < len) : lwC L len ba p = stC L len ba p := by
  have hl := h.1
  have e := cP_6s (ba := ba) h (j := p) (by omega)
  cases c : tb (cT L len ba p) p with
  | true =>
    rw [stC_t c]
    obtain ⟨x, h1, h2⟩ := cP_tb (ba := ba) h (by omega) c
    rw [cP_t c, h1] at e
    have hx := (cP_in (fun x hx => h.lt hx) h1).1
    rw [lwC_s e, if_neg]
    rw [low_and _ (h.lt hx).2 p (by omega) (h.lt hx).1]
    omega
  | false =>
    cases d : bfL L len ba p (cT L len ba p) with
    | none =>
      rw [cP_0 c d, cP_no (fun x hx => h.lt hx) (by omega) c] at e
      rw [lwC_n e, stC_n c d, if_pos hp]
    | some y =>
      obtain ⟨y1, y2, y3⟩ := bf_s d
      have t := (tz_tb _ (h.lt y1).2 (h.lt y1).1).1
      rw [y2] at t
      rw [cP_1 c d, if_pos t] at e
      rw [lwC_s e, stC_s c d, if_pos]
      rw [low_and _ (h.lt y1).2 p (by omega) (h.lt y1).1]
      omega
/-- the sum over the first places -/
def smC (L : SL) (len ba : Nat) : Nat → Nat
  | 0 => 0
  | p + 1 => smC L len ba p + lwC L len ba p
theorem smC_op (h : LW len L) : ∀ q, q ≤ len → smC L len ba q + opL L len ba (6 - q) (cT L len ba q) = opL L len ba 6 0
  | 0, _ => by rw [smC, Nat.zero_add]; rfl
  | q + 1, hq => by
    have hl := h.1
    have ih := smC_op h q (by omega)
    rw [op_step (by omega)] at ih
    rw [smC, lwC_st h (by omega), show 6 - (q + 1) = 5 - q by omega]
    omega
theorem smC_len (h : LW len L) : smC L len ba len = opL L len ba 6 0 := by
  have e := smC_op (ba := ba) h len (Nat.le_refl _)
  rw [op_0 h (6 - len) _ (Nat.le_refl _)] at e
  exact e
theorem smC_le (h : LW len L) {q : Nat} (hq : q ≤ len) : smC L len ba q ≤ opL L len ba 6 0 := by
  have e := smC_op (ba := ba) h q hq
  omega
theorem op_leN : ∀ k t, k ≤ 6 → opL L len ba k t ≤ ba * (len - (6 - k))
  | 0, _, _ => Nat.zero_le _
  | k + 1, t, hk => by
    have ih := fun t => op_leN k t (by omega)
    rw [opL_s]
    split
    · refine Nat.le_trans (ih t) (Nat.mul_le_mul_left _ (by omega))
    · refine Nat.le_trans mnL_le ?_
      have h := ih t
      by_cases c : 5 - k < len
      · rw [if_pos c, show len - (6 - (k + 1)) = (len - (6 - k)) + 1 by omega, Nat.mul_add, Nat.mul_one]
        omega
      · rw [if_neg c, Nat.zero_add]
        exact Nat.le_trans h (Nat.mul_le_mul_left _ (by omega))
theorem op_le6 : opL L len ba 6 0 ≤ ba * len := op_leN 6 0 (Nat.le_refl _)
end CC
/-- what stands at a place of the cover of a state -/
abbrev cvP (n : Nat) (fk fs : Nat → Nat) (len : Nat) (fw : Nat → Nat) (mc : Nat) (th : Nat → Bool) (rc : Nat → Option Nat) (ck pm : Nat → Nat) (ep : Nat → Nat → Option Nat) (ba p : Nat) : Option (Nat × Nat × Nat) := cP (smN n fk fs len fw rc ck pm ep th mc) len ba 6 p
/-- the cost of the cover of a state; of its first places -/
abbrev cvO (n : Nat) (fk fs : Nat → Nat) (len : Nat) (fw : Nat → Nat) (mc : Nat) (th : Nat → Bool) (rc : Nat → Option Nat) (ck pm : Nat → Nat) (ep : Nat → Nat → Option Nat) (ba : Nat) : Nat := opL (smN n fk fs len fw rc ck pm ep th mc) len ba 6 0
abbrev cvS (n : Nat) (fk fs : Nat → Nat) (len : Nat) (fw : Nat → Nat) (mc : Nat) (th : Nat → Bool) (rc : Nat → Option Nat) (ck pm : Nat → Nat) (ep : Nat → Nat → Option Nat) (ba p : Nat) : Nat := smC (smN n fk fs len fw rc ck pm ep th mc) len ba p
section CV
variable {n : Nat} {fk fs : Nat → Nat} {len : Nat} {fw : Nat → Nat} {mc : Nat} {th : Nat → Bool} {rc : Nat → Option Nat} {ck pm : Nat → Nat} {ep : Nat → Nat → Option Nat} {ba : Nat}
theorem cv_in (S : SW len fw) {p : Nat} {x : Nat × Nat × Nat} (h : cvP n fk fs len fw mc th rc ck pm ep ba p = some x) : x.1 < mc ∧ th x.1 = true ∧ 0 < x.2.1 ∧ x.2.1 < 2 ^ len ∧ x.2.1 < 64 ∧ x.2.2 = ck x.1 ∧ tb x.2.1 p = true := by
  have hL := smN_LW (n := n) (fk := fk) (fs := fs) (fw := fw) (rc := rc) (ck := ck) (pm := pm) (ep := ep) (th := th) S.1 mc
  obtain ⟨a, b⟩ := cP_in (fun x hx => hL.lt hx) h
  obtain ⟨c1, c2, c3, c4, c5⟩ := smN_ok a
  exact ⟨c1, c2, c3, c4, (hL.lt a).2, c5, b⟩
theorem cv_same (S : SW len fw) {p q : Nat} (hp : p < 6) (hq : q < 6) {x : Nat × Nat × Nat} (h : cvP n fk fs len fw mc th rc ck pm ep ba p = some x) (t : tb x.2.1 q = true) : cvP n fk fs len fw mc th rc ck pm ep ba q = some x := cP_same (smN_LW S.1 mc) hp h q hq t
theorem cv_n {p : Nat} (h : cvP n fk fs len fw mc th rc ck pm ep ba p = none) : cvS n fk fs len fw mc th rc ck pm ep ba (p + 1) = cvS n fk fs len fw mc th rc ck pm ep ba p + ba := by
  show smC _ _ _ (p + 1) = _
  rw [smC, lwC_n h]
theorem cv_s1 (S : SW len fw) {p : Nat} {x : Nat × Nat × Nat} (h : cvP n fk fs len fw mc th rc ck pm ep ba p = some x) (f : x.2.1 &&& (2 ^ p - 1) = 0) : cvS n fk fs len fw mc th rc ck pm ep ba (p + 1) = cvS n fk fs len fw mc th rc ck pm ep ba p + ck x.1 := by
  show smC _ _ _ (p + 1) = _
  rw [smC, lwC_s h, if_pos f, (cv_in S h).2.2.2.2.2.1]
theorem cv_s0 {p : Nat} {x : Nat × Nat × Nat} (h : cvP n fk fs len fw mc th rc ck pm ep ba p = some x) (f : x.2.1 &&& (2 ^ p - 1) ≠ 0) : cvS n fk fs len fw mc th rc ck pm ep ba (p + 1) = cvS n fk fs len fw mc th rc ck pm ep ba p := by
  show smC _ _ _ (p + 1) = _
  rw [smC, lwC_s h, if_neg f, Nat.add_zero]
theorem cv_len (S : SW len fw) : cvS n fk fs len fw mc th rc ck pm ep ba len = cvO n fk fs len fw mc th rc ck pm ep ba := smC_len (smN_LW S.1 mc)
theorem cv_le (S : SW len fw) (B : ba ≤ 50) {p : Nat} (hp : p ≤ len) : cvS n fk fs len fw mc th rc ck pm ep ba p ≤ 300 := by
  have h1 := smC_le (ba := ba) (smN_LW (n := n) (fk := fk) (fs := fs) (fw := fw) (rc := rc) (ck := ck) (pm := pm) (ep := ep) (th := th) S.1 mc) hp
  have h2 := op_le6 (L := smN n fk fs len fw rc ck pm ep th mc) (len := len) (ba := ba)
  have h3 : ba * len ≤ 50 * 6 := Nat.mul_le_mul B S.1
  show smC _ _ _ p ≤ 300
  omega
theorem cv_bare : cvO n fk fs len fw mc th rc ck pm ep ba ≤ ba * len := op_le6
end CV
/-! the law's own numbers -/
def bN (th : Nat → Bool) : Nat → Nat := fun e => if th e = true then 1 else 0
theorem bN_t {th : Nat → Bool} {e : Nat} (h : th e = true) : bN th e = 1 := if_pos h
theorem bN_1 {th : Nat → Bool} {e : Nat} (h : bN th e = 1) : th e = true := by
  unfold bN at h
  split at h
  · assumption
  · omega
theorem bN_up (th : Nat → Bool) (e : Nat) : va_up (bN th) e 1 = bN (va_up th e true) := by
  funext q; by_cases h : q = e <;> simp [va_up, bN, h]
theorem bN_off (th : Nat → Bool) (e : Nat) : va_up (bN th) e 0 = bN (va_up th e false) := by
  funext q; by_cases h : q = e <;> simp [va_up, bN, h]
/-- only entries that were made have cards -/
def CW (mc : Nat) (iv : Nat → Nat → Nat) : Prop := ∀ r e, mc ≤ e → iv r e = 0
theorem CW_s {mc : Nat} {iv : Nat → Nat → Nat} (h : CW mc iv) : CW (mc + 1) iv := fun r e he => h r e (by omega)
theorem CW_put {mc : Nat} {iv : Nat → Nat → Nat} (h : CW mc iv) {r e v : Nat} (he : e < mc) : CW mc (va_up iv r (va_up (iv r) e v)) := by
  intro r' e' he'
  unfold va_up
  split
  · dsimp only
    rw [if_neg (by omega)]
    rename_i e1
    rw [← e1]
    exact h r' e' he'
  · exact h r' e' he'
theorem CW_drp {mc : Nat} {iv : Nat → Nat → Nat} (h : CW mc iv) (e k : Nat) : CW mc (drp iv e k) := by
  intro r' e' he'
  rw [drp_at]
  split
  · rfl
  · exact h r' e' he'
theorem due_mc {mc r dy : Nat} {iv dv : Nat → Nat → Nat} (h : CW mc iv) (hm : mc ≤ 8) : cntB (fun e => decide (0 < iv r e) && decide (dv r e ≤ dy)) 8 = cntB (fun e => decide (0 < iv r e) && decide (dv r e ≤ dy)) mc := cntB_more (fun j hj => by rw [h r j hj]; rfl) hm
theorem fs_no {f d : Nat → Nat} {k : Nat} (h : ¬ 0 < f k) : fsC f d (k + 1) = fsC f d k := by
  rw [fsC]
  cases fsC f d k with
  | none => simp only [if_neg h]
  | some x => simp only [if_neg (fun q : 0 < f k ∧ d k < d x => h q.1)]
theorem fs_nn {f d : Nat → Nat} {k : Nat} (h : 0 < f k) (o : fsC f d k = none) : fsC f d (k + 1) = some k := by
  rw [fsC, o]
  simp only [if_pos h]
theorem fs_st {f d : Nat → Nat} {k x : Nat} (h : 0 < f k) (o : fsC f d k = some x) (q : d k < d x) : fsC f d (k + 1) = some k := by
  rw [fsC, o]
  simp only [if_pos (And.intro h q)]
theorem fs_sn {f d : Nat → Nat} {k x : Nat} (o : fsC f d k = some x) (q : ¬ d k < d x) : fsC f d (k + 1) = some x := by
  rw [fsC, o]
  simp only [if_neg (fun z : 0 < f k ∧ d k < d x => q z.2)]
theorem fs_more {f d : Nat → Nat} {a : Nat} (h : ∀ j, a ≤ j → f j = 0) : ∀ {b : Nat}, a ≤ b → fsC f d b = fsC f d a
  | 0, hb => by rw [Nat.le_zero.mp hb]
  | b + 1, hb => by
    rcases Nat.lt_or_ge a (b + 1) with q | q
    · rw [fs_no (by rw [h b (by omega)]; omega), fs_more h (by omega)]
    · rw [show a = b + 1 by omega]
theorem ctC_pos {f : Nat → Nat} {e : Nat} (h : 0 < f e) : ∀ {k : Nat}, e < k → 1 ≤ ctC f k
  | 0, q => absurd q (Nat.not_lt_zero e)
  | k + 1, q => by
    rw [ctC]
    by_cases c : e = k
    · subst c; rw [if_pos h]; omega
    · have := ctC_pos h (k := k) (by omega)
      omega
/-! the codes, where nothing is thrown -/
theorem cq_addRule {a b n : Nat} (ha : a < 3) (hb : 1 ≤ b ∧ b ≤ 50) (hn : n < 6) : c_addRule (nI a) (nI b) n = 0 := by
  unfold c_addRule
  rw [inZ_nI (by omega), inZ_nI (by omega), if_pos ⟨by simp; omega, by simp; omega⟩, if_neg (by omega)]
theorem cq_part {a ds : Nat} (ha : a < 100) (hd : ds < 4) : c_part (nI a) ds = 0 := by
  unfold c_part
  rw [inZ_nI (by omega), if_neg (fun q => by have := q.2; simp at this; omega), if_neg (fun q => q.elim (fun q => by omega) (fun q => nI_m1 (by omega) q.1))]
theorem cq_partO {ds : Nat} (h0 : 0 < ds) (hd : ds < 4) : c_part (-1) ds = 0 := by
  unfold c_part
  rw [if_neg (fun q => q.1 rfl), if_neg (fun q => q.elim (fun q => by omega) (fun q => by omega))]
theorem cq_addPhrase {k ds mc : Nat} {dr : Nat → Option Nat} (hk : 1 ≤ k ∧ k ≤ 20) (h0 : 0 < ds) (hd : dr (ds - 1) ≠ none) (hm : mc < 8) : c_addPhrase (nI k) ds dr mc = 0 := by
  unfold c_addPhrase
  rw [inZ_nI (by omega), if_neg (fun q => by simp at q; omega), if_neg (fun q => q.elim (fun q => by omega) (fun q => q.elim hd (fun q => by omega)))]
theorem cq_addSplit {a b r k mc : Nat} (ha : a < 100) (hb : b < 100) (hr : r ≤ 4) (hk : 1 ≤ k ∧ k ≤ 20) (hm : mc < 8) : c_addSplit (nI a) (nI b) (nI r) (nI k) mc = 0 := by
  unfold c_addSplit
  rw [inZ_nI (by omega), inZ_nI (by omega), inZ_nI (by omega), inZ_nI (by omega), if_neg (fun q => q.elim (fun q => by simp at q; omega) (fun q => by simp at q; omega)), if_neg (fun q => q.elim (fun q => by simp at q; omega) (fun q => by simp at q; omega)), if_neg (by omega)]
theorem cq_takeOut {e : Nat} {th : Nat → Bool} (he : e < 8) (ht : th e = true) : c_takeOut (nI e) th = 0 := by
  unfold c_takeOut
  rw [isE_nI he, if_pos ht]
theorem cq_say {a len : Nat} (ha : a < 100) (hl : len < 6) : c_say (nI a) len = 0 := by
  unfold c_say
  rw [inZ_nI (by omega), if_neg (fun q => by simp at q; omega), if_neg (by omega)]
theorem cq_setBare {a : Nat} (ha : 1 ≤ a ∧ a ≤ 50) : c_setBare (nI a) = 0 := by
  unfold c_setBare
  rw [inZ_nI (by omega), if_pos (by simp; omega)]
theorem cq_pass {a : Nat} (ha : 1 ≤ a ∧ a ≤ 100) : c_pass (nI a) = 0 := by
  unfold c_pass
  rw [inZ_nI (by omega), if_pos (by simp; omega)]
theorem cq_place {p len : Nat} (hp : p < len) (hl : len ≤ 6) : c_place (nI p) len = 0 := by
  unfold c_place
  rw [inZ_nI (by omega), if_pos (by simp; omega)]
theorem cq_reader {r : Nat} (hr : r < 3) : c_reader (nI r) = 0 := by
  unfold c_reader
  rw [inZ_nI (by omega), if_pos (by simp; omega)]
theorem rd_in {r : Nat} (hr : r < 3) : ¬ inZ 0 2 (nI r) = false := by
  rw [inZ_nI (by omega)]
  intro q
  simp at q
  omega
theorem cq_knows {r e : Nat} {th : Nat → Bool} (hr : r < 3) (he : e < 8) (ht : th e = true) : c_knows (nI r) (nI e) th = 0 := by
  unfold c_knows
  rw [if_neg (rd_in hr), isE_nI he, if_neg (by rw [ht]; decide)]
theorem cq_learn {r e : Nat} {th : Nat → Bool} {iv : Nat → Nat → Nat} (hr : r < 3) (he : e < 8) (ht : th e = true) (hv : iv r e = 0) : c_learn (nI r) (nI e) th iv = 0 := by
  unfold c_learn
  rw [if_neg (rd_in hr), isE_nI he, if_neg (by rw [ht]; decide), n9_nI (by omega), n9_nI (by omega), if_neg (by omega)]
theorem cq_review {r e dy : Nat} {th : Nat → Bool} {iv dv : Nat → Nat → Nat} (hr : r < 3) (he : e < 8) (ht : th e = true) (hv : 0 < iv r e) (hd : dv r e ≤ dy) : c_review (nI r) (nI e) th iv dv dy = 0 := by
  unfold c_review
  rw [if_neg (rd_in hr), isE_nI he, if_neg (by rw [ht]; decide), n9_nI (by omega), n9_nI (by omega), if_pos ⟨hv, hd⟩]
/-- a phrase's parts, put for the next entry -/
theorem TW_ph2 {mc ds : Nat} {th : Nat → Bool} {rc : Nat → Option Nat} {ck pm : Nat → Nat} {ep : Nat → Nat → Option Nat} {dr : Nat → Option Nat} {k : Nat} (H : TW mc th rc ck pm ep) (D : DW ds dr) (hk : k ≤ 20) (h2 : 0 < ds) (h3 : dr (ds - 1) ≠ none) (h4 : mc < 8) : TW (mc + 1) (va_up th mc true) (va_up rc mc none) (va_up ck mc k) (va_up pm mc ds) (va_up ep mc dr) := by
  obtain ⟨k1, k2, k3, k4, k5⟩ := H
  obtain ⟨d1, d2, d3⟩ := D
  have hep : ∀ e i v, va_up ep mc dr e i = some v → v < 100 := by
    intro e i v hv
    unfold va_up at hv
    split at hv
    · exact d2 i v hv
    · exact k5 e i v hv
  refine ⟨by omega, th_next k2, fun e he => ?_, fun e he r hr => ?_, hep⟩
  · by_cases q : e = mc
    · subst q
      have e1 : va_up rc e none e = none := va_up_self _ _ _
      have c1 : va_up ep e dr e = dr := va_up_self _ _ _
      rw [e1, va_up_self, va_up_self, c1]
      exact ⟨by omega, ⟨by omega, d1, d2⟩, d3 h2, h3⟩
    · have e1 : va_up rc mc none e = rc e := va_up_ne _ _ q
      have e2 : va_up ep mc dr e = ep e := va_up_ne _ _ q
      rw [e1, va_up_ne _ _ q, va_up_ne _ _ q, e2]
      exact k3 e (by omega)
  · by_cases q : e = mc
    · subst q
      rw [va_up_self] at hr; cases hr
    · rw [va_up_ne _ _ q] at hr
      have e2 : va_up ep mc dr e = ep e := va_up_ne _ _ q
      rw [e2]
      exact k4 e (by omega) r hr
