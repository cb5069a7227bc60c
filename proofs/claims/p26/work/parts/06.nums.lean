/-! ===== numbers: an int by its Nat, by an option (-1 for none), by a Bool ===== -/
theorem nI_and (a b : Nat) : nI a &&& nI b = nI (a &&& b) := by
  apply Int32.toBitVec_inj.1
  show BitVec.ofNat 32 a &&& BitVec.ofNat 32 b = BitVec.ofNat 32 (a &&& b)
  apply BitVec.eq_of_getLsbD_eq
  intro i hi
  simp [hi]
theorem nI_or (a b : Nat) : nI a ||| nI b = nI (a ||| b) := by
  apply Int32.toBitVec_inj.1
  show BitVec.ofNat 32 a ||| BitVec.ofNat 32 b = BitVec.ofNat 32 (a ||| b)
  apply BitVec.eq_of_getLsbD_eq
  intro i hi
  simp [hi]
theorem sh_l : ∀ n, n < 32 → ((nI n &&& 31).toBitVec.smod 32).toNat = n := by decide +kernel
theorem nI_shl (a k : Nat) (hk : k < 32) : nI a <<< (nI k &&& 31) = nI (a * 2 ^ k) := by
  apply Int32.toBitVec_inj.mp
  apply BitVec.eq_of_toNat_eq
  rw [pk_shl _ _ k (sh_l k hk)]
  show (BitVec.ofNat 32 a).toNat * 2 ^ k % 2 ^ 32 = (BitVec.ofNat 32 (a * 2 ^ k)).toNat
  rw [BitVec.toNat_ofNat, BitVec.toNat_ofNat, Nat.mod_mul_mod]
theorem nI_shr (a k : Nat) (ha : a < 2 ^ 31) (hk : k < 32) : nI a >>> (nI k &&& 31) = nI (a / 2 ^ k) := pk_shrN ha _ k (sh_l k hk)
theorem iincN1 (a : Nat) : nI a + Int32.ofInt 1 = nI (a + 1) := nI_add a 1
theorem iincN2 (a : Nat) : nI a + Int32.ofInt 2 = nI (a + 2) := nI_add a 2
theorem iincN4 (a : Nat) : nI a + Int32.ofInt 4 = nI (a + 4) := nI_add a 4
theorem iincN8 (a : Nat) : nI a + Int32.ofInt 8 = nI (a + 8) := nI_add a 8
theorem iincN16 (a : Nat) : nI a + Int32.ofInt 16 = nI (a + 16) := nI_add a 16
theorem iincN5 (a : Nat) : nI a + Int32.ofInt 5 = nI (a + 5) := nI_add a 5
theorem iincM1 (a : Nat) : nI (a + 1) + Int32.ofInt (-1) = nI a := pk_m1 a
theorem nar_b2i (b : Bool) : narrow .boolean (.int (b2i b)) = .int (b2i b) := by cases b <;> rfl
theorem vpn_b2i (b : Bool) : vp_nar .boolean (b2i b) = b2i b := by cases b <;> decide
theorem bT {b : Bool} (h : b = true) : nI 1 = b2i b := by rw [h]; rfl
theorem bF {b : Bool} (h : b = false) : nI 0 = b2i b := by rw [h]; rfl
def nA (f : Nat → Nat) : Nat → Int32 := fun j => nI (f j)
def zA (f : Nat → Bool) : Nat → Int32 := fun j => b2i (f j)
def oI (o : Option Nat) : Int32 := match o with
  | none => -1
  | some i => nI i
def oA (f : Nat → Option Nat) : Nat → Int32 := fun j => oI (f j)
theorem nA_up (f : Nat → Nat) (j v : Nat) : upd (nA f) j (nI v) = nA (va_up f j v) := by
  funext q; by_cases h : q = j <;> simp [upd, nA, va_up, h]
theorem zA_up (f : Nat → Bool) (j : Nat) (v : Bool) : upd (zA f) j (b2i v) = zA (va_up f j v) := by
  funext q; by_cases h : q = j <;> simp [upd, zA, va_up, h]
theorem oA_up (f : Nat → Option Nat) (j : Nat) (v : Option Nat) : upd (oA f) j (oI v) = oA (va_up f j v) := by
  funext q; by_cases h : q = j <;> simp [upd, oA, va_up, h]
theorem nA_0 : (fun _ => 0 : Nat → Int32) = nA (fun _ => 0) := rfl
theorem zA_0 : (fun _ => 0 : Nat → Int32) = zA (fun _ => false) := rfl
theorem nI_m1 {h : Nat} (hh : h < 2 ^ 31) : ¬ nI h = -1 := by
  intro q
  have a := nI_toInt hh
  rw [q] at a
  have : (-1 : Int32).toInt = -1 := by decide
  omega
theorem oI_m1 {o : Option Nat} (ho : ∀ h, o = some h → h < 2 ^ 31) : oI o = -1 ↔ o = none := by
  cases o with
  | none => exact ⟨fun _ => rfl, fun _ => rfl⟩
  | some h => exact ⟨fun q => absurd q (nI_m1 (ho h rfl)), fun q => by cases q⟩
theorem pk_remN {a d : Nat} (ha : a < 2 ^ 31) (h0 : 0 < d) (hd : d < 2 ^ 31) : nI a - nI a / nI d * nI d = nI (a % d) := pk_rem ha h0 hd
/-- an int by its Int -/
def zI (z : Int) : Int32 := Int32.ofInt z
theorem zI_n (n : Nat) : nI n = zI (n : Int) := rfl
theorem zI_add (a b : Int) : zI a + zI b = zI (a + b) := (Int32.ofInt_add a b).symm
theorem zI_sub (a b : Int) : zI a - zI b = zI (a - b) := (Int32.ofInt_sub a b).symm
theorem zI_toInt {a : Int} (h1 : -2147483648 ≤ a) (h2 : a < 2147483648) : (zI a).toInt = a := by
  show (Int32.ofInt a).toInt = a
  rw [Int32.toInt_ofInt]
  have hs : (Int32.size : Int) = 4294967296 := rfl
  exact Int.bmod_eq_of_le (by omega) (by omega)
theorem min_Z {a b : Int} (ha : -2147483648 ≤ a ∧ a < 2147483648) (hb : -2147483648 ≤ b ∧ b < 2147483648) : (if zI b < zI a then zI b else zI a) = zI (min a b) := by
  by_cases h : b < a
  · rw [if_pos (by rw [Int32.lt_iff_toInt_lt, zI_toInt ha.1 ha.2, zI_toInt hb.1 hb.2]; exact h), Int.min_eq_right (Int.le_of_lt h)]
  · rw [if_neg (by rw [Int32.lt_iff_toInt_lt, zI_toInt ha.1 ha.2, zI_toInt hb.1 hb.2]; exact h), Int.min_eq_left (Int.not_lt.mp h)]
section GR
variable {p : Program} {l : Launch} {e : Env} {R : Room} {s : State} {m : MethodId} {args : Array Value} {below : List Frame} {meth : Method} {c : Code} {κ : KK} {own : String} {cc : ByteArray} {nL : Nat} {ret : Option FieldType}
variable {J : JJ} {ws : va_W} {k n : Nat} {Q : State → Prop} {pc pc' : Nat} {lv : List (Nat × Value)} {st : List Value}
theorem g_ialdN (C : Cx p s m meth c κ own cc nL ret) (q0 : Nat) {a z : Nat} {f : Nat → Nat} (he : ws[q0]? = some (a, .inl (κ.2 0, z, .inl (nA f)))) (j : Nat) (hj : j < z) (hz : z < 2 ^ 31) (hd : decode cc pc = .ok (.iaload, 1)) (hp : pc + 1 = pc') (K : G p l e R s m args below meth c κ nL J ws k n Q pc' lv (.int (nI (f j)) :: st)) : G p l e R s m args below meth c κ nL J ws k n Q pc lv (.int (nI j) :: .ref a :: st) := g_iald C q0 he j hj hz hd hp K
theorem g_ialdO (C : Cx p s m meth c κ own cc nL ret) (q0 : Nat) {a z : Nat} {f : Nat → Option Nat} (he : ws[q0]? = some (a, .inl (κ.2 0, z, .inl (oA f)))) (j : Nat) (hj : j < z) (hz : z < 2 ^ 31) (hd : decode cc pc = .ok (.iaload, 1)) (hp : pc + 1 = pc') (K : G p l e R s m args below meth c κ nL J ws k n Q pc' lv (.int (oI (f j)) :: st)) : G p l e R s m args below meth c κ nL J ws k n Q pc lv (.int (nI j) :: .ref a :: st) := g_iald C q0 he j hj hz hd hp K
theorem g_ialdOs (C : Cx p s m meth c κ own cc nL ret) (q0 : Nat) {a z : Nat} {f : Nat → Option Nat} (he : ws[q0]? = some (a, .inl (κ.2 0, z, .inl (oA f)))) (j : Nat) {h : Nat} (hf : f j = some h) (hj : j < z) (hz : z < 2 ^ 31) (hd : decode cc pc = .ok (.iaload, 1)) (hp : pc + 1 = pc') (K : G p l e R s m args below meth c κ nL J ws k n Q pc' lv (.int (nI h) :: st)) : G p l e R s m args below meth c κ nL J ws k n Q pc lv (.int (nI j) :: .ref a :: st) := by
  refine g_iald C q0 he j hj hz hd hp ?_
  have e : oA f j = nI h := by show oI (f j) = _; rw [hf]; rfl
  rw [e]; exact K
theorem g_iastN {A : Nat → Prop} (C : Cx p s m meth c κ own cc nL ret) (q0 : Nat) {a z : Nat} {f : Nat → Nat} {x : Nat} (he : ws[q0]? = some (a, .inl (κ.2 0, z, .inl (nA f)))) (j : Nat) (hj : j < z) (hz : z < 2 ^ 31) {ws' : va_W} (hw : ws.set q0 (a, .inl (κ.2 0, z, .inl (nA (va_up f j x)))) = ws') (hd : decode cc pc = .ok (.iastore, 1)) (hp : pc + 1 = pc') (K : G p l e R s m args below meth c κ nL (JM A s) ws' k n Q pc' lv st) : G p l e R s m args below meth c κ nL (JM A s) ws k n Q pc lv (.int (nI x) :: .int (nI j) :: .ref a :: st) :=
  g_iast C q0 he j hj hz (by rw [nA_up]; exact hw) hd hp K
theorem g_iastO {A : Nat → Prop} (C : Cx p s m meth c κ own cc nL ret) (q0 : Nat) {a z : Nat} {f : Nat → Option Nat} {x : Option Nat} {v : Int32} (hv : oI x = v) (he : ws[q0]? = some (a, .inl (κ.2 0, z, .inl (oA f)))) (j : Nat) (hj : j < z) (hz : z < 2 ^ 31) {ws' : va_W} (hw : ws.set q0 (a, .inl (κ.2 0, z, .inl (oA (va_up f j x)))) = ws') (hd : decode cc pc = .ok (.iastore, 1)) (hp : pc + 1 = pc') (K : G p l e R s m args below meth c κ nL (JM A s) ws' k n Q pc' lv st) : G p l e R s m args below meth c κ nL (JM A s) ws k n Q pc lv (.int v :: .int (nI j) :: .ref a :: st) := by
  subst hv
  exact g_iast C q0 he j hj hz (by rw [oA_up]; exact hw) hd hp K
theorem g_icmp_eqO (C : Cx p s m meth c κ own cc nL ret) {o : Option Nat} (ho : ∀ h, o = some h → h < 2 ^ 31) {off : Int} {tgt : Nat} (hd : decode cc pc = .ok (.if_icmp .eq off, 3)) (ht : (pc : Int) + off = (tgt : Int)) (hp : pc + 3 = pc') (kt : o = none → G p l e R s m args below meth c κ nL J ws k n Q tgt lv st) (kf : ∀ h, o = some h → G p l e R s m args below meth c κ nL J ws k n Q pc' lv st) : G p l e R s m args below meth c κ nL J ws k n Q pc lv (.int (-1) :: .int (oI o) :: st) := by
  refine g_icmp_eq C hd ht hp (fun z => kt ((oI_m1 ho).mp z)) (fun z => ?_)
  cases h : o with
  | none => exact absurd ((oI_m1 ho).mpr h) z
  | some i => exact kf i h
theorem g_icmp_neO (C : Cx p s m meth c κ own cc nL ret) {o : Option Nat} (ho : ∀ h, o = some h → h < 2 ^ 31) {off : Int} {tgt : Nat} (hd : decode cc pc = .ok (.if_icmp .ne off, 3)) (ht : (pc : Int) + off = (tgt : Int)) (hp : pc + 3 = pc') (kt : ∀ h, o = some h → G p l e R s m args below meth c κ nL J ws k n Q tgt lv st) (kf : o = none → G p l e R s m args below meth c κ nL J ws k n Q pc' lv st) : G p l e R s m args below meth c κ nL J ws k n Q pc lv (.int (-1) :: .int (oI o) :: st) := by
  refine g_icmp_ne C hd ht hp (fun z => ?_) (fun z => kf ((oI_m1 ho).mp z))
  cases h : o with
  | none => exact absurd ((oI_m1 ho).mpr h) z
  | some i => exact kt i h
theorem g_val {x y : Int32} (h : x = y) (K : G p l e R s m args below meth c κ nL J ws k n Q pc lv (.int y :: st)) : G p l e R s m args below meth c κ nL J ws k n Q pc lv (.int x :: st) := by rw [h]; exact K
theorem g_O {o : Option Nat} (kn : o = none → G p l e R s m args below meth c κ nL J ws k n Q pc lv (.int (-1) :: st)) (ks : ∀ x, o = some x → G p l e R s m args below meth c κ nL J ws k n Q pc lv (.int (nI x) :: st)) : G p l e R s m args below meth c κ nL J ws k n Q pc lv (.int (oI o) :: st) := by
  cases h : o with
  | none => exact kn h
  | some x => exact ks x h
theorem g_min (C : Cx p s m meth c κ own cc nL ret) {idx : Nat} (h1 : Cond.methodLink own idx Lib.Math.min.name ∈ T1) (h2 : Cond.static Lib.Math.min.name ∈ T1) (h3 : Cond.initialized "java/lang/Math" ∈ T1) (h4 : Cond.code Lib.Math.min.name Lib.Math.min.code 2 (some .int) ∈ T1) (hf : 1 ≤ R.frames) (hl0 : (st.map fun v => v.category).sum + 13 ≤ R.locals) (hk : k ≤ R.cells ∧ n ≤ R.slots) {x y v : Int32} (hv : (if y < x then y else x) = v) (hd : decode cc pc = .ok (.invokestatic idx, 3)) (hp : pc + 3 = pc') (K : G p l e R s m args below meth c κ nL J ws k n Q pc' lv (.int v :: st)) : G p l e R s m args below meth c κ nL J ws k n Q pc lv (.int y :: .int x :: st) := by
  subst hp; subst hv
  exact fun H locs ls hP hJ hl => va_mmin C.1 C.2.1 (C.2.2.1.trans hl.1.symm) C.2.2.2.2.2.1 (C.2.2.2.2.2.2.2 _ h1 args) (C.2.2.2.2.2.2.2 _ h2 args) (C.2.2.2.2.2.2.2 _ h3 args) (C.2.2.2.2.2.2.2 _ h4 args) hf hl0 hk.1 hk.2 hd (K H locs ls hP hJ hl)
theorem min_N {a b : Nat} (ha : a < 2 ^ 31) (hb : b < 2 ^ 31) : (if nI b < nI a then nI b else nI a) = nI (min a b) := by
  by_cases h : b < a
  · rw [if_pos ((nI_ltI hb ha).mpr h), Nat.min_eq_right (Nat.le_of_lt h)]
  · rw [if_neg (fun q => h ((nI_ltI hb ha).mp q)), Nat.min_eq_left (Nat.not_lt.mp h)]
end GR
theorem mn_RX1_38 : Cond.methodLink RX1 38 Lib.Math.min.name ∈ T1 := (wdT 599 (by decide +kernel) (by decide +kernel))
theorem mn_RX7_48 : Cond.methodLink RX7 48 Lib.Math.min.name ∈ T1 := (wdT 651 (by decide +kernel) (by decide +kernel))
theorem mn_RJ7_304 : Cond.methodLink RJ7 304 Lib.Math.min.name ∈ T1 := (wdT 334 (by decide +kernel) (by decide +kernel))
theorem mn_RX8_208 : Cond.methodLink RX8 208 Lib.Math.min.name ∈ T1 := (wdT 477 (by decide +kernel) (by decide +kernel))
theorem wd_mn2 : Cond.static Lib.Math.min.name ∈ T1 := (wdT 335 (by decide +kernel) (by decide +kernel))
theorem wd_mn3 : Cond.initialized "java/lang/Math" ∈ T1 := (wdT 57 (by decide +kernel) (by decide +kernel))
theorem wd_mn4 : Cond.code Lib.Math.min.name Lib.Math.min.code 2 (some .int) ∈ T1 := (wdT 336 (by decide +kernel) (by decide +kernel))
theorem nI_shl1 (k : Nat) (hk : k < 32) : nI 1 <<< (nI k &&& 31) = nI (2 ^ k) := by rw [nI_shl 1 k hk, Nat.one_mul]
theorem nI_pm1 (a : Nat) : nI a + (-1) = nI a - 1 := by rw [Int32.sub_eq_add_neg]
theorem nI_sub1 (a : Nat) : nI (a + 1) - 1 = nI a := nI_pred a
