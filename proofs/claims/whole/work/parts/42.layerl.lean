/-! ===== the law's script, its switch, calls with all else in a frame ===== -/
section GR
variable {p : Program} {l : Launch} {e : Env} {R : Room} {s : State} {m : MethodId} {args : Array Value} {below : List Frame} {meth : Method} {c : Code} {κ : KK} {own : String} {cc : ByteArray} {nL : Nat} {ret : Option FieldType}
variable {J : JJ} {ws : va_W} {k n : Nat} {Q : State → Prop} {pc pc' : Nat} {lv : List (Nat × Value)} {st : List Value}
theorem g_sld (C : Cx p s m meth c κ own cc nL ret) {A : Nat → Prop} {b L : Nat} {xs : Nat → Int32} (hX : va_X b L xs s s.heap) (hbl : b < s.heap.size) (hbA : ¬ A b) (j : Nat) (hj : j < L) (hL : L < 2 ^ 31) (hd : decode cc pc = .ok (.iaload, 1)) (hp : pc + 1 = pc') (K : G p l e R s m args below meth c κ nL (JM A s) ws k n Q pc' lv (.int (xs j) :: st)) : G p l e R s m args below meth c κ nL (JM A s) ws k n Q pc lv (.int (nI j) :: .ref b :: st) := by
  subst hp
  refine fun H locs ls hP hJ hl => va_sld C.1 C.2.1 hX hbl hbA hJ.2 (vp_in_nI hj hL) hd ?_
  rw [nI_clamp (Nat.lt_trans hj hL)]
  exact K H locs ls hP hJ hl
theorem g_slen (C : Cx p s m meth c κ own cc nL ret) {A : Nat → Prop} {b L : Nat} {xs : Nat → Int32} (hX : va_X b L xs s s.heap) (hbl : b < s.heap.size) (hbA : ¬ A b) (hd : decode cc pc = .ok (.arraylength, 1)) (hp : pc + 1 = pc') (K : G p l e R s m args below meth c κ nL (JM A s) ws k n Q pc' lv (.int (nI L) :: st)) : G p l e R s m args below meth c κ nL (JM A s) ws k n Q pc lv (.ref b :: st) := by
  subst hp
  exact fun H locs ls hP hJ hl => va_slen C.1 C.2.1 hX hbl hbA hJ.2 hd (K H locs ls hP hJ hl)
theorem g_tabIn (C : Cx p s m meth c κ own cc nL ret) {dflt lo hi : Int} {offs : Array Int} {len : Nat} {x : Int32} {off : Int} {tgt : Nat} (hd : decode cc pc = .ok (.tableswitch dflt lo hi offs, len)) (h1 : ¬ x.toInt < lo) (h2 : ¬ hi < x.toInt) (ho : offs[(x.toInt - lo).toNat]? = some off) (ht : (pc : Int) + off = (tgt : Int)) (K : G p l e R s m args below meth c κ nL J ws k n Q tgt lv st) : G p l e R s m args below meth c κ nL J ws k n Q pc lv (.int x :: st) :=
  fun H locs ls hP hJ hl => lv_tableIn C.1 C.2.1 hd h1 h2 ho ht (K H locs ls hP hJ hl)
theorem g_tabOut (C : Cx p s m meth c κ own cc nL ret) {dflt lo hi : Int} {offs : Array Int} {len : Nat} {x : Int32} {tgt : Nat} (hd : decode cc pc = .ok (.tableswitch dflt lo hi offs, len)) (h : x.toInt < lo ∨ hi < x.toInt) (ht : (pc : Int) + dflt = (tgt : Int)) (K : G p l e R s m args below meth c κ nL J ws k n Q tgt lv st) : G p l e R s m args below meth c κ nL J ws k n Q pc lv (.int x :: st) :=
  fun H locs ls hP hJ hl => lv_tableOut C.1 C.2.1 hd h ht (K H locs ls hP hJ hl)
theorem g_fP (C : Cx p s m meth c κ own cc nL ret) {idx : Nat} {y : MethodName} {cb : ByteArray} {yL : Nat} {yr : Option FieldType} {nA d : Nat} (L : LV own idx y cb yL yr nA) {b : Nat} {av : List Value} {wc : va_W} {post : Int32 → Prop} (hM : CP l y cb yL yr d κ (.ref b :: av) wc post) (hsub : ∀ q ∈ wc, q ∈ ws) (q0 : Nat) {ci : Nat} {fs : List Value} (he : wc[q0]? = some (b, .inr (ci, fs))) (hc : (vwCl[ci]?).map (fun q => q.1) = some y.cls) (hlen : av.length = nA) (hcat : (st.map fun v => v.category).sum ≤ 8) (hR : d + 9 ≤ R.frames ∧ 219 + yL + 40 * d ≤ R.locals) (hf : k ≤ R.cells ∧ n ≤ R.slots) {stk : List Value} (hst : av.reverse ++ .ref b :: st = stk) (hd : decode cc pc = .ok (.invokevirtual idx, 3)) (hp : pc + 3 = pc') (K : ∀ r, post r → G p l e R s m args below meth c κ nL J ws k n Q pc' lv (.int r :: st)) : G p l e R s m args below meth c κ nL J ws k n Q pc lv stk := by
  subst hp
  intro H locs ls hP hJ hl
  have hPc := hP.of_sub hsub
  exact vp_callSi (va_Run.run (g_runV C L hM ⟨PcP.blind, g_recv C hPc q0 he hc, fun U hU hW => ⟨rfl, by rw [hU]; exact hPc, C.2.2.2.2.2.2.warm hW⟩⟩ hlen hl.1 hcat hR hf hst hd)) (fun r hr => K r hr H locs ls hP hJ hl)
end GR
theorem pm3 (x o y : va_W) : ((x ++ o) ++ y).Perm ((o ++ y) ++ x) := by
  rw [List.append_assoc]
  exact List.perm_append_comm
theorem out_at {x y : va_W} {κ : KK} {o0 : Nat} {ou : Nat → Int64} : ((x ++ outW κ o0 ou) ++ y)[x.length]? = some (o0, .inl (κ.2 4, 1, .inr (.inl ou))) := by
  rw [List.append_assoc, List.getElem?_append_right (Nat.le_refl _), Nat.sub_self]
  rfl
theorem lg_self (x : Int64) : lg_cmp x x = nI 0 := by
  unfold lg_cmp
  rw [if_neg (fun h => absurd h Int64.lt_irrefl), if_pos rfl]
  rfl
theorem and31 (x : Int32) : ∃ v : Nat, v < 32 ∧ x &&& nI 31 = nI v := by
  refine ⟨x.toBitVec.toNat % 32, Nat.mod_lt _ (by decide), ?_⟩
  apply Int32.toBitVec_inj.mp
  apply BitVec.eq_of_toNat_eq
  show (x.toBitVec &&& BitVec.ofNat 32 31).toNat = (BitVec.ofNat 32 (x.toBitVec.toNat % 32)).toNat
  rw [BitVec.toNat_and, BitVec.toNat_ofNat, BitVec.toNat_ofNat]
  have h1 : 31 % 2 ^ 32 = 2 ^ 5 - 1 := by decide
  rw [h1, Nat.and_two_pow_sub_one_eq_mod, show (2 : Nat) ^ 5 = 32 from rfl]
  exact (Nat.mod_eq_of_lt (by omega)).symm
theorem z_ltN {z : Int} {n : Nat} (hz : -2147483648 ≤ z ∧ z < 2147483648) (hn : n < 2147483648) : zI z < nI n ↔ z < (n : Int) := by rw [Int32.lt_iff_toInt_lt, zI_toInt hz.1 hz.2, nI_toInt hn]
theorem nI_c0 {c : Nat} (hc : c ≠ 0) (h : c ≤ 3) : ¬ nI c = 0 := by
  intro q
  have h2 := congrArg Int32.toInt q
  rw [nI_toInt (by omega)] at h2
  have h0 : (0 : Int32).toInt = 0 := rfl
  omega
theorem cb_addRule {p0 p1 : Int32} {n : Nat} : c_addRule p0 p1 n ≤ 3 := by unfold c_addRule; split <;> (try split) <;> omega
theorem cb_headwords {p0 : Int32} : c_w p0 ≤ 3 := by unfold c_w; split <;> omega
theorem cb_isForm {p0 p1 : Int32} : c_isForm p0 p1 ≤ 3 := by unfold c_isForm; split <;> omega
theorem cb_part {p0 : Int32} {ds : Nat} : c_part p0 ds ≤ 3 := by unfold c_part; split <;> (try split) <;> omega
theorem cb_addPhrase {p0 : Int32} {ds mc : Nat} {dr : Nat → Option Nat} : c_addPhrase p0 ds dr mc ≤ 3 := by unfold c_addPhrase; split <;> (try split) <;> omega
theorem cb_addSplit {p0 p1 p2 p3 : Int32} {mc : Nat} : c_addSplit p0 p1 p2 p3 mc ≤ 3 := by unfold c_addSplit; split <;> (try split) <;> (try split) <;> omega
theorem cb_takeOut {p0 : Int32} {th : Nat → Bool} : c_takeOut p0 th ≤ 3 := by unfold c_takeOut; split <;> omega
theorem cb_say {p0 : Int32} {len : Nat} : c_say p0 len ≤ 3 := by unfold c_say; split <;> (try split) <;> omega
theorem cb_setBare {p0 : Int32} : c_setBare p0 ≤ 3 := by unfold c_setBare; split <;> omega
theorem cb_place {p0 : Int32} {len : Nat} : c_place p0 len ≤ 3 := by unfold c_place; split <;> omega
theorem cb_reader {p0 : Int32} : c_reader p0 ≤ 3 := by unfold c_reader; split <;> omega
theorem cb_learn {p0 p1 : Int32} {th : Nat → Bool} {iv : Nat → Nat → Nat} : c_learn p0 p1 th iv ≤ 3 := by unfold c_learn; split <;> (try split) <;> (try split) <;> omega
theorem cb_review {p0 p1 : Int32} {th : Nat → Bool} {iv dv : Nat → Nat → Nat} {dy : Nat} : c_review p0 p1 th iv dv dy ≤ 3 := by unfold c_review; split <;> (try split) <;> (try split) <;> omega
theorem cb_knows {p0 p1 : Int32} {th : Nat → Bool} : c_knows p0 p1 th ≤ 3 := by unfold c_knows; split <;> (try split) <;> omega
theorem cb_pass {p0 : Int32} : c_pass p0 ≤ 3 := by unfold c_pass; split <;> omega
theorem lg_o {x : Int64} {r V : Int32} (h1 : x = V.toInt64) (h2 : r = V) : lg_cmp x r.toInt64 = nI 0 := by rw [h1, h2]; exact lg_self _
theorem lg_b0 {x : Int64} {r V : Int32} (h1 : x = V.toInt64) (h2 : r = V) (h3 : r = 0) : lg_cmp x 0 = nI 0 := by rw [h1, ← h2, h3]; exact lg_self _
theorem lg_b1 {x : Int64} {r : Int32} {B : Bool} (h1 : x = (b2i B).toInt64) (h2 : r = b2i B) (h3 : ¬ r = 0) : lg_cmp x 1 = nI 0 := by
  rw [h1]
  cases B with
  | true => exact lg_self _
  | false => exact absurd h2 h3
