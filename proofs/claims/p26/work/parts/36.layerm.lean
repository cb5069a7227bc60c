/-! ===== the law's own calls: those that may throw but do not; the script's ints; numbers cut down ===== -/
def PcS (κ : KK) (av : List Value) (b L : Nat) (xs : Nat → Int32) : Array Value → State → Prop := va_Pc av (fun U => va_X b L xs U U.heap ∧ b < U.heap.size ∧ EV κ U)
theorem PcS.blind {κ : KK} {av : List Value} {b L : Nat} {xs : Nat → Int32} : FrameBlind (PcS κ av b L xs) := fun _ U g mk q => ⟨q.1, va_X.moved (u := U) (State.WarmedH.refl U).alike q.2.1, q.2.2.1, q.2.2.2.call⟩
section GR
variable {p : Program} {l : Launch} {e : Env} {R : Room} {s : State} {m : MethodId} {args : Array Value} {below : List Frame} {meth : Method} {c : Code} {κ : KK} {own : String} {cc : ByteArray} {nL : Nat} {ret : Option FieldType}
variable {J : JJ} {ws : va_W} {k n : Nat} {Q : State → Prop} {pc pc' : Nat} {lv : List (Nat × Value)} {st : List Value}
theorem g_ldcC (C : Cx p s m meth c κ own cc nL ret) {i : Nat} {v : Int32} (hw : Cond.constant own i v ∈ T1) (hd : decode cc pc = .ok (.ldc i, 2)) (hp : pc + 2 = pc') (K : G p l e R s m args below meth c κ nL J ws k n Q pc' lv (.int v :: st)) : G p l e R s m args below meth c κ nL J ws k n Q pc lv st := by
  subst hp
  exact fun H locs ls hP hJ hl => lv_ldc C.1 C.2.1 C.2.2.2.2.2.1 (C.2.2.2.2.2.2.2 _ hw args) hd (K H locs ls hP hJ hl)
theorem g_sldP (C : Cx p s m meth c κ own cc nL ret) {b L : Nat} {xs : Nat → Int32} (hX : va_X b L xs s s.heap) (hbl : b < s.heap.size) (j : Nat) (hj : j < L) (hL : L < 2 ^ 31) (hd : decode cc pc = .ok (.iaload, 1)) (hp : pc + 1 = pc') (K : G p l e R s m args below meth c κ nL (JP s) ws k n Q pc' lv (.int (xs j) :: st)) : G p l e R s m args below meth c κ nL (JP s) ws k n Q pc lv (.int (nI j) :: .ref b :: st) := by
  subst hp
  intro H locs ls hP hJ hl
  have hJ2 := hJ
  obtain ⟨h1, h2⟩ := hJ
  refine va_sld (A := fun _ => False) C.1 C.2.1 hX hbl (fun h => h) (by rw [h1, h2]; exact va_S.rf) (vp_in_nI hj hL) hd ?_
  rw [nI_clamp (Nat.lt_trans hj hL)]
  exact K H locs ls hP hJ2 hl
theorem g_slenP (C : Cx p s m meth c κ own cc nL ret) {b L : Nat} {xs : Nat → Int32} (hX : va_X b L xs s s.heap) (hbl : b < s.heap.size) (hd : decode cc pc = .ok (.arraylength, 1)) (hp : pc + 1 = pc') (K : G p l e R s m args below meth c κ nL (JP s) ws k n Q pc' lv (.int (nI L) :: st)) : G p l e R s m args below meth c κ nL (JP s) ws k n Q pc lv (.ref b :: st) := by
  subst hp
  intro H locs ls hP hJ hl
  have hJ2 := hJ
  obtain ⟨h1, h2⟩ := hJ
  exact va_slen (A := fun _ => False) C.1 C.2.1 hX hbl (fun h => h) (by rw [h1, h2]; exact va_S.rf) hd (K H locs ls hP hJ2 hl)
theorem cs_of {y : MethodName} {cb : ByteArray} {yL : Nat} {yr : Option FieldType} {av : List Value} {b L : Nat} {xs : Nat → Int32} {post : Int32 → Prop} (own : String) (hown : y.cls = own) (hy : plainName y.cls = true) (hn : (lg_sl av).length ≤ yL)
    (body : ∀ (p : Program) (e : Env) (s : State) (m : MethodId) (below : List Frame) (meth : Method) (c : Code), Cx p s m meth c κ own cb yL yr → va_X b L xs s s.heap → b < s.heap.size → G p l e (rmv 0 0 0) s m av.toArray below meth c κ yL (JP s) [] 0 0 (MQ below (vp_Si post) av.toArray s 0 0 (fun _ => False)) 0 (lv_args 0 av) []) : Met l y [.code y cb yL yr] (rmv 0 0 0) (PcS κ av b L xs) (vp_Si post) 0 0 (fun _ => False) := by
  refine Met.ofW (cc := cb) (maxL := yL) (ret := yr) hy rfl ?_
  intro p e s m args below meth c s₁ B hml hv
  obtain ⟨rfl, hX, hb, hE⟩ := hv
  have hl := lv_entry av (n := yL) hn
  rw [lg_entry_eq]
  exact body p e s m below meth c ⟨B.exec, B.bytes, hml, B.returns, B.notSynchronized, by rw [← hown]; exact findClass_of_methodNamed B.named, hE⟩ hX hb s.heap [] _ (fun k q h => by simp at h) ⟨rfl, rfl⟩ hl
/-- a call of a method that reads the script -/
theorem g_callS (C : Cx p s m meth c κ own cc nL ret) {A : Nat → Prop} {b L : Nat} {xs : Nat → Int32} (hX : va_X b L xs s s.heap) (hbl : b < s.heap.size) (hbA : ¬ A b) {idx : Nat} {y : MethodName} {cb : ByteArray} {yL : Nat} {yr : Option FieldType} {nA : Nat} (L9 : LSt own idx y cb yL yr nA) {av : List Value} {post : Int32 → Prop} (hM : Met l y [.code y cb yL yr] (rmv 0 0 0) (PcS κ av b L xs) (vp_Si post) 0 0 (fun _ => False)) (hlen : av.length = nA) (hcat : (st.map fun v => v.category).sum ≤ 8) (hR : 0 + 9 ≤ R.frames ∧ 219 + yL + 40 * 0 ≤ R.locals) (hf : k ≤ R.cells ∧ n ≤ R.slots) {stk : List Value} (hst : av.reverse ++ st = stk) (hd : decode cc pc = .ok (.invokestatic idx, 3)) (hp : pc + 3 = pc') (K : ∀ r, post r → G p l e R s m args below meth c κ nL (JM A s) ws k n Q pc' lv (.int r :: st)) : G p l e R s m args below meth c κ nL (JM A s) ws k n Q pc lv stk := by
  subst hp
  intro H locs ls hP hJ hl
  have hX1 : va_X b L xs s H := hX.kept (hJ.2.2.1 b hbl hbA)
  exact vp_callSi (va_Run.run (g_runS C L9 hM ⟨PcS.blind, fun U hU hW => ⟨rfl, by rw [hU]; exact hX1.moved hW.alike, by rw [hU]; exact Nat.lt_of_lt_of_le hbl hJ.2.1, C.2.2.2.2.2.2.warm hW⟩⟩ hlen hl.1 hcat hR hf hst hd)) (fun r hr => K r hr H locs ls hP hJ hl)
section QC
variable {A : Nat → Prop} {idx : Nat} {y : MethodName} {cb : ByteArray} {yL : Nat} {yr : Option FieldType} {nA d mc ms : Nat} {b : Nat} {av : List Value} {wc wr : va_W} {es : String → Prop}
/-- a call of a method that may throw, where it does not -/
theorem g_fQ (C : Cx p s m meth c κ own cc nL ret) (Y : ES strL s ∧ ST A s) (hA : ∀ q, s.heap.size ≤ q → A q) (h0 : Cond.methodLink own idx y ∈ T1) (L : LV own idx y cb yL yr nA) {post : Int32 → va_W → Prop} (hM : CYi l y cb yL yr d mc ms κ (.ref b :: av) wc es post) (hno : ∀ E, ¬ es E) (hp0 : ws.Perm (wr ++ wc)) (q0 : Nat) {ci : Nat} {fs : List Value} (he : wc[q0]? = some (b, .inr (ci, fs))) (hc : (vwCl[ci]?).map (fun q => q.1) = some y.cls) (hlen : av.length = nA) (hcat : (st.map fun v => v.category).sum ≤ 8) (hR : d + 9 ≤ R.frames ∧ 219 + yL + 40 * d ≤ R.locals) (hf : k + mc ≤ R.cells ∧ n + ms ≤ R.slots) {stk : List Value} (hst : av.reverse ++ .ref b :: st = stk) (hd : decode cc pc = .ok (.invokevirtual idx, 3)) (hp : pc + 3 = pc')
    (K : ∀ r w1, post r w1 → G p l e R s m args below meth c κ nL (JM A s) (wr ++ w1) (k + mc) (n + ms) Q pc' lv (.int r :: st)) : G p l e R s m args below meth c κ nL (JM A s) ws k n Q pc lv stk := by
  refine g_perm hp0 ?_
  clear hp0
  subst hp
  intro H locs ls hP hJ hl
  have hC := idx_C wr wc
  have hRr := idx_R wr wc
  have hnd := idx_nd wr wc
  have hF := va_free hJ.1 hJ.2 hA _ hC
  refine vx_calli (g_xrunV C h0 L (hM H.size) ⟨PcX.blind, g_recv C hP _ (idx_at he) hc, g_preX C Y hP hJ hC hnd.1 hF _⟩ hlen hl.1 hcat hR hf hst hd) hJ.2 (fun q _ h => hF q h) hF (fun q _ h => hF q h) (fun E ce q9 u t H1 locs1 ht hvm hpx hBX hz1 hk1 hS1 hce hv hcl => absurd hBX.1 (hno E)) (fun r u t H1 locs1 ht hvm hw hB9 hz1 hk1 hS1 => ?_)
  obtain ⟨hP1, hD1⟩ := va_join hP hJ.1 _ _ hC hRr hnd.2.1 hnd.2.2 hk1 hF (by rw [← ht]; exact hB9.1) hB9.2
  exact K r u hw H1 locs1 ls hP1 ⟨hD1, hS1⟩ hl
theorem g_fQS (C : Cx p s m meth c κ own cc nL ret) (Y : ES strL s ∧ ST A s) (hA : ∀ q, s.heap.size ≤ q → A q) (h0 : Cond.methodLink own idx y ∈ T1) (L : LSt own idx y cb yL yr nA) {post : Int32 → va_W → Prop} (hM : CYi l y cb yL yr d mc ms κ av wc es post) (hno : ∀ E, ¬ es E) (hp0 : ws.Perm (wr ++ wc)) (hlen : av.length = nA) (hcat : (st.map fun v => v.category).sum ≤ 8) (hR : d + 9 ≤ R.frames ∧ 219 + yL + 40 * d ≤ R.locals) (hf : k + mc ≤ R.cells ∧ n + ms ≤ R.slots) {stk : List Value} (hst : av.reverse ++ st = stk) (hd : decode cc pc = .ok (.invokestatic idx, 3)) (hp : pc + 3 = pc')
    (K : ∀ r w1, post r w1 → G p l e R s m args below meth c κ nL (JM A s) (wr ++ w1) (k + mc) (n + ms) Q pc' lv (.int r :: st)) : G p l e R s m args below meth c κ nL (JM A s) ws k n Q pc lv stk := by
  refine g_perm hp0 ?_
  clear hp0
  subst hp
  intro H locs ls hP hJ hl
  have hC := idx_C wr wc
  have hRr := idx_R wr wc
  have hnd := idx_nd wr wc
  have hF := va_free hJ.1 hJ.2 hA _ hC
  refine vx_calli (g_xrunS C h0 L (hM H.size) ⟨PcX.blind, g_preX C Y hP hJ hC hnd.1 hF _⟩ hlen hl.1 hcat hR hf hst hd) hJ.2 (fun q _ h => hF q h) hF (fun q _ h => hF q h) (fun E ce q9 u t H1 locs1 ht hvm hpx hBX hz1 hk1 hS1 hce hv hcl => absurd hBX.1 (hno E)) (fun r u t H1 locs1 ht hvm hw hB9 hz1 hk1 hS1 => ?_)
  obtain ⟨hP1, hD1⟩ := va_join hP hJ.1 _ _ hC hRr hnd.2.1 hnd.2.2 hk1 hF (by rw [← ht]; exact hB9.1) hB9.2
  exact K r u hw H1 locs1 ls hP1 ⟨hD1, hS1⟩ hl
end QC
end GR
theorem and31b (x : Int32) : ∃ v : Nat, v < 2147483648 ∧ x &&& 2147483647 = nI v := by
  refine ⟨x.toBitVec.toNat % 2147483648, Nat.mod_lt _ (by decide), ?_⟩
  apply Int32.toBitVec_inj.mp
  apply BitVec.eq_of_toNat_eq
  show (x.toBitVec &&& BitVec.ofNat 32 2147483647).toNat = (BitVec.ofNat 32 (x.toBitVec.toNat % 2147483648)).toNat
  rw [BitVec.toNat_and, BitVec.toNat_ofNat, BitVec.toNat_ofNat]
  have h1 : 2147483647 % 2 ^ 32 = 2 ^ 31 - 1 := by decide
  rw [h1, Nat.and_two_pow_sub_one_eq_mod, show (2 : Nat) ^ 31 = 2147483648 from rfl]
  exact (Nat.mod_eq_of_lt (by omega)).symm
theorem nI_ned {d : Nat} (h0 : 0 < d) (h1 : d < 2147483648) : ¬ nI d = 0 := by
  intro q
  have a := congrArg Int32.toInt q
  rw [nI_toInt h1] at a
  have h2 : (0 : Int32).toInt = 0 := rfl
  omega
/-- 'low' answers a number under its second argument -/
theorem kL_low (l : Launch) (κ : KK) (v9 : Int32) (d9 : Nat) (h0 : 0 < d9) (h1 : d9 < 2147483648) : CP l yL_low cL_low 2 (some .int) 0 κ [.int v9, .int (nI d9)] [] (fun r => ∃ x : Nat, x < d9 ∧ r = nI x) := by
  refine cp_of RL rfl (by decide) (Nat.le_of_ble_eq_true rfl) ?_
  intro p e s m below meth c C
  refine g_lv (lv' := [(0, .int v9), (1, .int (nI d9))]) [0, 1] rfl ?_
  refine g_iload_n (pc' := 1) C 0 dL_low_0 rfl rfl rfl ?_
  refine g_ldcC (pc' := 3) C wd_const_RL_7 dL_low_1 rfl ?_
  obtain ⟨v, hv, ev⟩ := and31b v9
  refine g_iand (pc' := 4) (v := nI v) C dL_low_3 ev rfl ?_
  refine g_iload_n (pc' := 5) C 1 dL_low_4 rfl rfl rfl ?_
  refine g_irem (pc' := 6) (v := nI (v % d9)) C dL_low_5 (nI_ned h0 h1) (pk_remN hv h0 h1) rfl ?_
  exact g_retP C rfl rfl ⟨v % d9, Nat.mod_lt _ h0, rfl⟩ dL_low_6
/-- 'cell' answers an int -/
theorem kL_cell (l : Launch) (κ : KK) (b L : Nat) (xs : Nat → Int32) (j : Nat) (hL : L < 2147483648) (hj : j < 2147483648) : Met l yL_cell [.code yL_cell cL_cell 2 (some .int)] (rmv 0 0 0) (PcS κ [.ref b, .int (nI j)] b L xs) (vp_Si (fun _ => True)) 0 0 (fun _ => False) := by
  refine cs_of RL rfl (by decide) (Nat.le_of_ble_eq_true rfl) ?_
  intro p e s m below meth c C hX hb
  refine g_lv (lv' := [(0, .ref b), (1, .int (nI j))]) [0, 1] rfl ?_
  refine g_iload_n (pc' := 1) C 1 dL_cell_0 rfl rfl rfl ?_
  refine g_aload_n (pc' := 2) C 0 dL_cell_1 rfl rfl rfl ?_
  refine g_slenP (pc' := 3) C hX hb dL_cell_2 rfl ?_
  refine g_icmp_geN (pc' := 6) (tgt := 12) C hj hL dL_cell_3 (by decide) rfl (fun c1 => ?_) (fun c1 => ?_)
  · refine g_sipush (pc' := 15) (v := nI 7919) C dL_cell_12 (by decide) rfl ?_
    refine g_iload_n (pc' := 16) C 1 dL_cell_15 rfl rfl rfl ?_
    refine g_iconst (pc' := 17) (v := nI 3) C dL_cell_16 (by decide) rfl ?_
    refine g_iadd (pc' := 18) (v := nI (j + 3)) C dL_cell_17 (nI_add _ _) rfl ?_
    refine g_imul (pc' := 19) (v := nI (7919 * (j + 3))) C dL_cell_18 (pk_mul _ _) rfl ?_
    refine g_iload_n (pc' := 20) C 1 dL_cell_19 rfl rfl rfl ?_
    refine g_bipush (pc' := 22) (v := nI 11) C dL_cell_20 (by decide) rfl ?_
    refine g_iadd (pc' := 23) (v := nI (j + 11)) C dL_cell_22 (nI_add _ _) rfl ?_
    refine g_imul (pc' := 24) (v := nI (7919 * (j + 3) * (j + 11))) C dL_cell_23 (pk_mul _ _) rfl ?_
    exact g_retP C rfl rfl trivial dL_cell_24
  · refine g_aload_n (pc' := 7) C 0 dL_cell_6 rfl rfl rfl ?_
    refine g_iload_n (pc' := 8) C 1 dL_cell_7 rfl rfl rfl ?_
    refine g_sldP (pc' := 9) C hX hb j c1 hL dL_cell_8 rfl ?_
    refine g_goto (tgt := 24) C dL_cell_9 (by decide) ?_
    exact g_retP C rfl rfl trivial dL_cell_24
