/-! ===== the reference's plain functions ===== -/
theorem z_gtZ {p : Int32} {z : Int} (h : -2147483648 ≤ z ∧ z < 2147483648) : zI z < p ↔ z < p.toInt := by rw [Int32.lt_iff_toInt_lt, zI_toInt h.1 h.2]
theorem isE_out {th : Nat → Bool} {mc : Nat} {p : Int32} (hth : ∀ e, th e = true → e < mc) (h : inZ 0 ((mc : Int) - 1) p = false) : isE th p = false := by
  cases q : isE th p with
  | false => rfl
  | true =>
    obtain ⟨w, h1, rfl, h3⟩ := isE_w q
    have h4 := hth w h3
    rw [inZ_nI (by omega)] at h
    simp at h
    omega
theorem isE_is {th : Nat → Bool} {mc : Nat} {p : Int32} (hm : mc ≤ 8) (h : inZ 0 ((mc : Int) - 1) p = true) : isE th p = th (n9 p) := by
  obtain ⟨w, h1, h2, rfl⟩ := inZ_w h (by decide)
  rw [isE_nI (by omega), n9_nI (by omega)]
def fl8 (M : Nat → Nat → Nat) : Nat → Nat := fun j => M (j / 8) (j % 8)
def fl4 (M : Nat → Nat → Option Nat) : Nat → Option Nat := fun j => M (j / 4) (j % 4)
theorem fl8_at {M : Nat → Nat → Nat} {r e : Nat} (h : e < 8) : fl8 M (8 * r + e) = M r e := by
  unfold fl8
  rw [show (8 * r + e) / 8 = r by omega, show (8 * r + e) % 8 = e by omega]
theorem fl4_at {M : Nat → Nat → Option Nat} {r e : Nat} (h : e < 4) : fl4 M (4 * r + e) = M r e := by
  unfold fl4
  rw [show (4 * r + e) / 4 = r by omega, show (4 * r + e) % 4 = e by omega]
theorem fl8_up {M : Nat → Nat → Nat} {r e v : Nat} (h : e < 8) : va_up (fl8 M) (8 * r + e) v = fl8 (va_up M r (va_up (M r) e v)) := by
  funext j
  unfold fl8
  simp only [va_up]
  by_cases h1 : j = 8 * r + e
  · subst h1
    simp [show (8 * r + e) / 8 = r by omega, show (8 * r + e) % 8 = e by omega, va_up]
  · rw [if_neg h1]
    by_cases h2 : j / 8 = r
    · have h3 : j % 8 ≠ e := by omega
      simp [h2, va_up, h3]
    · simp [h2]
theorem fl4_up {M : Nat → Nat → Option Nat} {r e : Nat} {v : Option Nat} (h : e < 4) : va_up (fl4 M) (4 * r + e) v = fl4 (va_up M r (va_up (M r) e v)) := by
  funext j
  unfold fl4
  simp only [va_up]
  by_cases h1 : j = 4 * r + e
  · subst h1
    simp [show (4 * r + e) / 4 = r by omega, show (4 * r + e) % 4 = e by omega, va_up]
  · rw [if_neg h1]
    by_cases h2 : j / 4 = r
    · have h3 : j % 4 ≠ e := by omega
      simp [h2, va_up, h3]
    · simp [h2]
/-- the cards with those for an entry dropped, in one row -/
def drf (vf : Nat → Nat) (e : Nat) : Nat → (Nat → Nat)
  | 0 => vf
  | r + 1 => va_up (drf vf e r) (8 * r + e) 0
theorem drf_fl {iv : Nat → Nat → Nat} {e : Nat} (h : e < 8) : ∀ k, drf (fl8 iv) e k = fl8 (drp iv e k)
  | 0 => rfl
  | k + 1 => by rw [drf, drf_fl h k, fl8_up h, drp]
theorem drf_at {vf : Nat → Nat} {e : Nat} : ∀ {k r : Nat}, k ≤ r → drf vf e k (8 * r + e) = vf (8 * r + e)
  | 0, _, _ => rfl
  | k + 1, r, h => by
    rw [drf]
    show (if 8 * r + e = 8 * k + e then 0 else drf vf e k (8 * r + e)) = _
    rw [if_neg (by omega), drf_at (by omega)]
theorem drf_le {vf : Nat → Nat} {e b : Nat} (h : ∀ j, vf j ≤ b) : ∀ k j, drf vf e k j ≤ b
  | 0, j => h j
  | k + 1, j => by
    rw [drf]
    show (if j = 8 * k + e then 0 else drf vf e k j) ≤ _
    split
    · omega
    · exact drf_le h k j
/-- the parts with the draft's first k put behind 4 * mc -/
def cpf (pf dr : Nat → Option Nat) (mc : Nat) : Nat → (Nat → Option Nat)
  | 0 => pf
  | k + 1 => va_up (cpf pf dr mc k) (4 * mc + k) (dr k)
theorem cpf_fl {ep : Nat → Nat → Option Nat} {dr : Nat → Option Nat} {mc : Nat} : ∀ k, k ≤ 4 → cpf (fl4 ep) dr mc k = fl4 (va_up ep mc (fun j => if j < k then dr j else ep mc j))
  | 0, _ => by
    rw [cpf]
    congr 1
    funext e j
    by_cases h : e = mc <;> simp [va_up, h]
  | k + 1, hk => by
    rw [cpf, cpf_fl k (by omega), fl4_up (by omega)]
    congr 1
    funext e j
    by_cases h : e = mc
    · by_cases h2 : j = k
      · simp [va_up, h, h2]
      · have h3 : (j < k + 1) = (j < k) := propext (by omega)
        simp [va_up, h, h2, h3]
    · simp [va_up, h]
theorem c_knows_lt {p0 p1 : Int32} {th : Nat → Bool} : c_knows p0 p1 th < 3 := by unfold c_knows; split; · omega
                                                                                  split <;> omega
theorem c_knows_0 {p0 p1 : Int32} {th : Nat → Bool} (h : c_knows p0 p1 th ≤ 0) : inZ 0 2 p0 = true ∧ isE th p1 = true := by
  unfold c_knows at h
  split at h
  · omega
  · split at h
    · omega
    · rename_i h1 h2
      exact ⟨by simpa using h1, by simpa using h2⟩
def d_learn (p0 p1 : Int32) (th : Nat → Bool) (vf : Nat → Nat) : Nat := if inZ 0 2 p0 = false then 1 else if isE th p1 = false then 2 else if 0 < vf (8 * n9 p0 + n9 p1) then 3 else 0
def d_review (p0 p1 : Int32) (th : Nat → Bool) (vf df : Nat → Nat) (dy : Nat) : Nat := if inZ 0 2 p0 = false then 1 else if isE th p1 = false then 2 else if 0 < vf (8 * n9 p0 + n9 p1) ∧ df (8 * n9 p0 + n9 p1) ≤ dy then 0 else 3
theorem d_learn_no {p0 p1 : Int32} {th : Nat → Bool} {vf : Nat → Nat} (h : 0 < c_knows p0 p1 th) : d_learn p0 p1 th vf = c_knows p0 p1 th := by
  unfold c_knows d_learn at *
  split
  · rfl
  · rename_i h1
    rw [if_neg h1] at h
    split
    · rfl
    · rename_i h2
      rw [if_neg h2] at h
      omega
theorem d_review_no {p0 p1 : Int32} {th : Nat → Bool} {vf df : Nat → Nat} {dy : Nat} (h : 0 < c_knows p0 p1 th) : d_review p0 p1 th vf df dy = c_knows p0 p1 th := by
  unfold c_knows d_review at *
  split
  · rfl
  · rename_i h1
    rw [if_neg h1] at h
    split
    · rfl
    · rename_i h2
      rw [if_neg h2] at h
      omega
theorem isE_lt {th : Nat → Bool} {p : Int32} (h : isE th p = true) : n9 p < 8 := by
  obtain ⟨w, h1, rfl, -⟩ := isE_w h
  rw [n9_nI (by omega)]
  exact h1
theorem d_learn_fl {p0 p1 : Int32} {th : Nat → Bool} {iv : Nat → Nat → Nat} : d_learn p0 p1 th (fl8 iv) = c_learn p0 p1 th iv := by
  unfold d_learn c_learn
  split
  · rfl
  · split
    · rfl
    · rename_i h
      rw [fl8_at (isE_lt (by simpa using h))]
theorem d_review_fl {p0 p1 : Int32} {th : Nat → Bool} {iv dv : Nat → Nat → Nat} {dy : Nat} : d_review p0 p1 th (fl8 iv) (fl8 dv) dy = c_review p0 p1 th iv dv dy := by
  unfold d_review c_review
  split
  · rfl
  · split
    · rfl
    · rename_i h
      rw [fl8_at (isE_lt (by simpa using h)), fl8_at (isE_lt (by simpa using h))]
theorem rvI_64 {v : Nat} (h : v = 64) : 64 = rvI true v := by subst h; rfl
theorem rvI_2 {v : Nat} (h : v ≠ 64) (hi : ip v) : 2 * v = rvI true v := by
  unfold ip at hi
  unfold rvI
  rw [if_pos rfl]
  omega
theorem ip_le {v : Nat} (h : ip v) : v ≤ 64 := by unfold ip at h; omega
theorem ip_rvI {v : Nat} {g : Bool} (h : ip v) (h0 : 0 < v) : ip (rvI g v) := by
  unfold ip at *
  unfold rvI
  cases g
  · right; left; rfl
  · rw [if_pos rfl]
    omega
theorem ctC_congr {f f' : Nat → Nat} : ∀ {k : Nat}, (∀ j, j < k → f j = f' j) → ctC f k = ctC f' k
  | 0, _ => rfl
  | k + 1, h => by simp only [ctC]; rw [ctC_congr (fun j hj => h j (by omega)), h k (by omega)]
theorem fsC_congr {f f' d d' : Nat → Nat} : ∀ {k : Nat}, (∀ j, j < k → f j = f' j ∧ d j = d' j) → fsC f d k = fsC f' d' k
  | 0, _ => rfl
  | k + 1, h => by
    simp only [fsC]
    rw [fsC_congr (k := k) (fun j hj => h j (by omega))]
    cases q : fsC f' d' k with
    | none => simp only [(h k (by omega)).1]
    | some x =>
      have hx := fsC_lt q
      simp only [(h k (by omega)).1, (h k (by omega)).2, (h x (by omega)).2]
theorem va_up_le {f : Nat → Nat} {k v b : Nat} (h : ∀ j, f j ≤ b) (hv : v ≤ b) (j : Nat) : va_up f k v j ≤ b := by
  unfold va_up
  split
  · exact hv
  · exact h j
section GR
variable {p : Program} {l : Launch} {e : Env} {R : Room} {s : State} {m : MethodId} {args : Array Value} {below : List Frame} {meth : Method} {c : Code} {κ : KK} {nL : Nat}
variable {J : JJ} {ws : va_W} {k n : Nat} {Q : State → Prop} {pc : Nat} {lv : List (Nat × Value)} {st : List Value}
theorem g_w {ws' : va_W} (h : ws = ws') (K : G p l e R s m args below meth c κ nL J ws' k n Q pc lv st) : G p l e R s m args below meth c κ nL J ws k n Q pc lv st := by rw [h]; exact K
end GR
