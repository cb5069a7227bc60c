/-! ===== what the law's body knows throughout ===== -/
def LC (l : Launch) (p : Program) (s : State) (m : MethodId) (meth : Method) (c : Code) (κ : KK) (b L : Nat) (xs : Nat → Int32) : Prop := Cx p s m meth c κ RL cL_law 23 ret ∧ (ES strL s ∧ ST (fun q => s.heap.size ≤ q) s) ∧ va_X b L xs s s.heap ∧ b < s.heap.size ∧ L ≤ 260 ∧ l.stackTraces = false
/-- the loop from its head on, for every state behind the turn i -/
def NXT (p : Program) (l : Launch) (e : Env) (s : State) (m : MethodId) (below : List Frame) (meth : Method) (c : Code) (κ : KK) (b x0 t0 c0 v0 d0 i : Nat) : Prop := ∀ (wx : va_W) (n : Nat) (fk : Nat → Nat) (fs : Nat → Nat) (len : Nat) (fw : Nat → Nat) (dr : Nat → Option Nat) (mc : Nat) (th : Nat → Bool) (rc : Nat → Option Nat) (ck : Nat → Nat) (pm : Nat → Nat) (ep : Nat → Nat → Option Nat) (ba : Nat) (dy : Nat) (iv : Nat → Nat → Nat) (dv : Nat → Nat → Nat), RW n fk fs → SW len fw → DW 0 dr → TW mc th rc ck pm ep → ba ≤ 50 → KW iv dv → IW iv → dy ≤ 100 * (i + 1) → CW mc iv → LX κ x0 n fk fs len fw 0 dr mc th rc ck pm ep ba dy iv dv wx → G p l e room_1 s m #[Value.ref b] below meth c κ 23 (JM (fun q => s.heap.size ≤ q) s) ([(t0, .inl (κ.2 0, 8, .inl (nA (bN th)))), (c0, .inl (κ.2 0, 8, .inl (nA ck))), (v0, .inl (κ.2 0, 24, .inl (nA (fl8 iv)))), (d0, .inl (κ.2 0, 24, .inl (nA (fl8 dv))))] ++ wx) (100 + 200 * (i + 1)) (2000 + 2000 * (i + 1)) (lw_Z below #[Value.ref b] s) 49 [(11, .int (nI (i + 1))), (10, .int (nI dy)), (9, .int (nI ba)), (8, .int (nI len)), (7, .int (nI n)), (6, .int (nI mc)), (5, .ref d0), (4, .ref v0), (3, .ref c0), (2, .ref t0), (1, .ref x0), (0, .ref b)] []
theorem RW_add2 {n a b : Nat} {fk fs : Nat → Nat} (H : RW n fk fs) (ha : a < 3) (hb : b ≤ 50) (hn : n < 6) : RW (n + 1) (va_up fk n a) (va_up fs n b) := by
  obtain ⟨k1, k2, k3⟩ := H
  refine ⟨by omega, fun i => ?_, fun i => ?_⟩
  · unfold va_up; split
    · exact ha
    · exact k2 i
  · unfold va_up; split
    · exact hb
    · exact k3 i
theorem SW_say2 {len a : Nat} {fw : Nat → Nat} (H : SW len fw) (ha : a < 100) (hl : len < 6) : SW (len + 1) (va_up fw len a) := by
  refine ⟨by omega, fun i => ?_⟩
  unfold va_up; split
  · exact ha
  · exact H.2 i
theorem TW_sp2 {mc a b r k : Nat} {th : Nat → Bool} {rc : Nat → Option Nat} {ck pm : Nat → Nat} {ep : Nat → Nat → Option Nat} (H : TW mc th rc ck pm ep) (ha : a < 100) (hb : b < 100) (hr : r ≤ 4) (hk : 1 ≤ k ∧ k ≤ 20) (hm : mc < 8) : TW (mc + 1) (va_up th mc true) (va_up rc mc (some r)) (va_up ck mc k) pm (epS ep mc a b) := by
  have h := TW_sp H (cq_addSplit ha hb hr hk hm)
  rw [n9_nI (by omega), n9_nI (by omega), n9_nI (by omega), n9_nI (by omega)] at h
  exact h
theorem bN_le (th : Nat → Bool) (e : Nat) : bN th e ≤ 1 := by unfold bN; split <;> omega
theorem due_f1 {iv dv : Nat → Nat → Nat} {r k dy : Nat} (h : ¬ 0 < iv r k) : (fun e => decide (0 < iv r e) && decide (dv r e ≤ dy)) k = false := by
  show (decide (0 < iv r k) && decide (dv r k ≤ dy)) = false
  rw [decide_eq_false h]; rfl
theorem due_f2 {iv dv : Nat → Nat → Nat} {r k dy : Nat} (h : ¬ dv r k ≤ dy) : (fun e => decide (0 < iv r e) && decide (dv r e ≤ dy)) k = false := by
  show (decide (0 < iv r k) && decide (dv r k ≤ dy)) = false
  rw [decide_eq_false h, Bool.and_false]
theorem due_t {iv dv : Nat → Nat → Nat} {r k dy : Nat} (h1 : 0 < iv r k) (h2 : dv r k ≤ dy) : (fun e => decide (0 < iv r e) && decide (dv r e ≤ dy)) k = true := by
  show (decide (0 < iv r k) && decide (dv r k ≤ dy)) = true
  rw [decide_eq_true h1, decide_eq_true h2]; rfl
