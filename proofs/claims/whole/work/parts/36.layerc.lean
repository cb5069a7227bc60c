/-! ===== the law's calls, with handlers ===== -/
def ncL : List (String × String) := [(E_ISE, E_IAE), (E_ISE, E_IOB), (E_IAE, E_IOB), (E_NSE, E_IOB), (E_ISE, E_NSE)]
theorem NC.call {L : List (String × String)} {U : State} {g : JFrame} {mk : MethodId} {a : Array Value} (h : NC L U) : NC L (U.calling g mk a) := NC.warm (s := U) (U := U.calling g mk a) (State.WarmedH.refl U) h
def PcH (κ : KK) (av : List Value) (wc : va_W) (sz : Nat) : Array Value → State → Prop := va_Pc av (fun U => U.heap.size = sz ∧ va_P κ.1 vwCl wc U.heap ∧ va_D (fun _ => True) wc ∧ EV κ U ∧ ES strL U ∧ ST (va_A wc sz) U ∧ NC ncL U)
theorem PcH.blind {κ : KK} {av : List Value} {wc : va_W} {sz : Nat} : FrameBlind (PcH κ av wc sz) := fun _ _ _ _ q => ⟨q.1, q.2.1, q.2.2.1, q.2.2.2.1, q.2.2.2.2.1.call, q.2.2.2.2.2.1.call, q.2.2.2.2.2.2.1.call, q.2.2.2.2.2.2.2.call⟩
def CHi (l : Launch) (y : MethodName) (cb : ByteArray) (yL : Nat) (hh : List (Nat × Nat × Nat × Nat)) (d mc ms : Nat) (κ : KK) (av : List Value) (wc : va_W) (post : Int32 → va_W → Prop) : Prop := ∀ sz, Met l y [.codeWith y cb yL (some .int) hh] (rmv d mc ms) (PcH κ av wc sz) (QMi κ wc sz post) mc ms (va_A wc sz)
/-- what a body with handlers knows beside -/
def Ch (l : Launch) (s : State) (c : Code) (A : Nat → Prop) (hh : List (Nat × Nat × Nat × Nat)) : Prop := l.stackTraces = false ∧ c.exceptionTable.toList = tableOf hh ∧ ES strL s ∧ ST A s ∧ NC ncL s
def HD (s : State) (c : Code) (args : Array Value) (own : String) (pc : Nat) (E : String) (hpc : Nat) : Prop := ∃ (name : String) (pre : List ExceptionTableEntry) (x : ExceptionTableEntry) (suf : List ExceptionTableEntry), c.exceptionTable.toList = pre ++ x :: suf ∧ (∀ z ∈ pre, covers z pc = false ∨ (z.catchType ≠ 0 ∧ ∃ nm : String, (Cond.classLink own z.catchType nm).before args s = true ∧ va_Nc E nm s)) ∧ covers x pc = true ∧ x.catchType ≠ 0 ∧ (Cond.classLink own x.catchType name).before args s = true ∧ (Cond.castable E name).before args s = true ∧ x.handlerPc = hpc
section GR
variable {p : Program} {l : Launch} {e : Env} {R : Room} {s : State} {m : MethodId} {args : Array Value} {below : List Frame} {meth : Method} {c : Code} {κ : KK} {own : String} {cc : ByteArray} {nL : Nat} {ret : Option FieldType}
variable {J : JJ} {ws : va_W} {k n : Nat} {Q : State → Prop} {pc pc' : Nat} {lv : List (Nat × Value)} {st : List Value}
theorem HD.of (C : Cx p s m meth c κ own cc nL ret) {A : Nat → Prop} {hh : List (Nat × Nat × Nat × Nat)} (Y : Ch l s c A hh) {E name : String} (pre : List (Nat × Nat × Nat × Nat)) (x : Nat × Nat × Nat × Nat) (suf : List (Nat × Nat × Nat × Nat)) (hs : hh = pre ++ x :: suf) (hp : ∀ z ∈ pre, z.2.2.2 ≠ 0 ∧ ∃ nm : String, Cond.classLink own z.2.2.2 nm ∈ T1 ∧ (E, nm) ∈ ncL) (hc : covers ⟨x.1, x.2.1, x.2.2.1, x.2.2.2⟩ pc = true) (h0 : x.2.2.2 ≠ 0) (hl : Cond.classLink own x.2.2.2 name ∈ T1) (hk : Cond.castable E name ∈ T1) : HD s c args own pc E x.2.2.1 := by
  refine ⟨name, tableOf pre, ⟨x.1, x.2.1, x.2.2.1, x.2.2.2⟩, tableOf suf, ?_, ?_, hc, h0, C.2.2.2.2.2.2.2 _ hl args, C.2.2.2.2.2.2.2 _ hk args, rfl⟩
  · rw [Y.2.1, hs]
    show List.map _ _ = List.map _ _ ++ _ :: List.map _ _
    rw [List.map_append, List.map_cons]
  · intro z hz
    obtain ⟨q, hq, rfl⟩ := List.mem_map.mp hz
    obtain ⟨h1, nm, h2, h3⟩ := hp q hq
    exact Or.inr ⟨h1, nm, C.2.2.2.2.2.2.2 _ h2 args, Y.2.2.2.2 _ h3⟩
theorem chi_of {y : MethodName} {cb : ByteArray} {yL : Nat} {hh : List (Nat × Nat × Nat × Nat)} {d mc ms : Nat} {av : List Value} {wc : va_W} {post : Int32 → va_W → Prop} (hst : l.stackTraces = false) (own : String) (hown : y.cls = own) (hy : plainName y.cls = true) (hn : (lg_sl av).length ≤ yL)
    (body : ∀ (p : Program) (e : Env) (s : State) (m : MethodId) (below : List Frame) (meth : Method) (c : Code) (A : Nat → Prop), Cx p s m meth c κ own cb yL (some .int) → Ch l s c A hh → A = va_A wc s.heap.size → (∀ q, s.heap.size ≤ q → A q) → G p l e (rmv d mc ms) s m av.toArray below meth c κ yL (JM A s) wc 0 0 (MQ below (QMi κ wc s.heap.size post) av.toArray s mc ms A) 0 (lv_args 0 av) []) : CHi l y cb yL hh d mc ms κ av wc post := by
  intro sz
  refine MetFree.of_bodyS (code := cb) (maxLocals := yL) (ret := some .int) hy ?_ ?_
  · intro args s m h hn
    obtain ⟨m9, meth, c, hn9, h1, h2, h3, h4, -, h5, h6, -⟩ := Cond.codeWith_spec (atoms_spec (ws := [.codeWith y cb yL (some .int) hh]) h _ List.mem_cons_self)
    cases hn.symm.trans hn9
    exact ⟨meth, c, h1, h2, h3, h4, h5, h6⟩
  · intro p e s m args below meth c s₁ B hml hv _
    have hh0 : s₁.heap = s.heap := by rw [B.state]; rfl
    have hT := vx_table (x := y) B (atoms_spec (ws := [.codeWith y cb yL (some .int) hh]) B.pre _ List.mem_cons_self)
    obtain ⟨rfl, rfl, hP, hD, hE, hS, hT2, hN⟩ := hv
    have hl := lv_entry av (n := yL) hn
    have K := body p e s m below meth c _ ⟨B.exec, B.bytes, hml, B.returns, B.notSynchronized, by rw [← hown]; exact findClass_of_methodNamed B.named, hE⟩ ⟨hst, hT, hS, hT2, hN⟩ rfl (fun q h => Or.inr h) s.heap [] _ hP ⟨hD.self, va_S.rf⟩ hl
    rw [← lg_entry_eq] at K
    obtain ⟨t, a1, o, b1, b2, b3⟩ := K s₁ hh0 (Stand.of_body B)
    exact ⟨t, o, a1, b1, b2, b3⟩
section HC
variable {A : Nat → Prop} {idx : Nat} {y : MethodName} {cb : ByteArray} {yL : Nat} {yr : Option FieldType} {nA d mc ms : Nat} {b : Nat} {av : List Value} {wc wr : va_W} {es : String → Prop} {hh : List (Nat × Nat × Nat × Nat)}
/-- a call that may throw, in a body with handlers -/
theorem g_callH (C : Cx p s m meth c κ own cc nL ret) (Y : Ch l s c A hh) (hA : ∀ q, s.heap.size ≤ q → A q) (h0 : Cond.methodLink own idx y ∈ T1) (L : LV own idx y cb yL yr nA) {post : Int32 → va_W → Prop} (hM : CYi l y cb yL yr d mc ms κ (.ref b :: av) wc es post) (hp0 : ws.Perm (wr ++ wc)) (q0 : Nat) {ci : Nat} {fs : List Value} (he : wc[q0]? = some (b, .inr (ci, fs))) (hc : (vwCl[ci]?).map (fun q => q.1) = some y.cls) (hlen : av.length = nA) (hcat : (st.map fun v => v.category).sum ≤ 8) (hR : d + 9 ≤ R.frames ∧ 219 + yL + 40 * d ≤ R.locals) (hf : k + mc ≤ R.cells ∧ n + ms ≤ R.slots) {stk : List Value} (hst : av.reverse ++ .ref b :: st = stk) (hd : decode cc pc = .ok (.invokevirtual idx, 3)) (hp : pc + 3 = pc')
    (KX : ∀ E, es E → ∃ hpc, HD s c args own pc E hpc ∧ ∀ q : Nat, G p l e R s m args below meth c κ nL (JM A s) ws (k + mc) (n + ms) Q hpc lv [.ref q])
    (K : ∀ r w1, post r w1 → G p l e R s m args below meth c κ nL (JM A s) (wr ++ w1) (k + mc) (n + ms) Q pc' lv (.int r :: st)) : G p l e R s m args below meth c κ nL (JM A s) ws k n Q pc lv stk := by
  refine g_perm hp0 ?_
  have hp1 := hp0.symm
  clear hp0
  subst hp
  intro H locs ls hP hJ hl
  have hC := idx_C wr wc
  have hRr := idx_R wr wc
  have hnd := idx_nd wr wc
  have hF := va_free hJ.1 hJ.2 hA _ hC
  refine vx_calli (g_xrunV C h0 L (hM H.size) ⟨PcX.blind, g_recv C hP _ (idx_at he) hc, g_preX C ⟨Y.2.2.1, Y.2.2.2.1⟩ hP hJ hC hnd.1 hF _⟩ hlen hl.1 hcat hR hf hst hd) hJ.2 (fun q _ h => hF q h) hF (fun q _ h => hF q h) (fun E ce q9 u t H1 locs1 ht hvm hpx hBX hz1 hk1 hS1 hce hv hcl => ?_) (fun r u t H1 locs1 ht hvm hw hB9 hz1 hk1 hS1 => ?_)
  · obtain ⟨hP1, hD1⟩ := va_join hP hJ.1 _ _ hC hRr hnd.2.1 hnd.2.2 hk1 hF (by rw [← ht]; exact hBX.2) ((hJ.1.sub _ hnd.1 hC).self)
    obtain ⟨hpc, ⟨name, pre, x, suf, i1, i2, i3, i4, i5, i6, i7⟩, KG⟩ := KX E hBX.1
    subst i7
    exact vx_catch C.2.2.2.2.2.1 pre x suf i1 i2 i3 i4 i5 i6 hce hv hcl (KG q9 H1 locs1 ls (hP1.perm hp1) ⟨hD1.perm hp1, hS1⟩ hl)
  · obtain ⟨hP1, hD1⟩ := va_join hP hJ.1 _ _ hC hRr hnd.2.1 hnd.2.2 hk1 hF (by rw [← ht]; exact hB9.1) hB9.2
    exact K r u hw H1 locs1 ls hP1 ⟨hD1, hS1⟩ hl
def LH (own : String) (idx : Nat) (y : MethodName) (cb : ByteArray) (yL : Nat) (hh : List (Nat × Nat × Nat × Nat)) (nA : Nat) : Prop := Cond.methodLink own idx y ∈ T1 ∧ Cond.static y ∈ T1 ∧ Cond.initialized y.cls ∈ T1 ∧ Cond.codeWith y cb yL (some .int) hh ∈ T1 ∧ hdY y nA
theorem cs_of (C : Cx p s m meth c κ own cc nL ret) (L : LH own idx y cb yL hh nA) (hR : d + 9 ≤ R.frames ∧ 219 + yL + 40 * d ≤ R.locals) : vx_CSW R s args own idx y cb yL (some .int) hh [.codeWith y cb yL (some .int) hh] (rmv d mc ms) mc ms nA := by
  obtain ⟨h1, h2, h3, h4, h5⟩ := L
  refine vx_cwSW (Ts := T1) (ws' := []) nA (fun w hw => C.2.2.2.2.2.2.2 w hw args) (fun w hw => ?_) rfl rfl rfl h5 ⟨by show d + 8 + 1 ≤ _; omega, by show 8 + (yL + 11) + (200 + 40 * d) ≤ _; omega⟩
  unfold va_wsS at hw
  simp only [List.mem_append, List.mem_cons, List.not_mem_nil, or_false] at hw
  rcases hw with (rfl | rfl | rfl) | rfl
  · exact ⟨h1, Or.inl rfl⟩
  · exact ⟨h2, Or.inl rfl⟩
  · exact ⟨h3, Or.inl rfl⟩
  · exact ⟨h4, Or.inl rfl⟩
theorem g_preH (C : Cx p s m meth c κ own cc nL ret) {H : Heap} (Y : ES strL s ∧ ST A s ∧ NC ncL s) {locs : List Loc} (hP : va_P κ.1 vwCl ws H) (hJ : JM A s ws H locs) {wc : va_W} {is : List Nat} (hC : is.map (fun i => ws[i]?) = wc.map some) (hn : va_nd is = true) (hF : ∀ q, va_A wc H.size q → A q) (av : List Value) : ∀ U : State, U.heap = H → s.WarmedH U.vm → PcH κ av wc H.size av.toArray U :=
  fun U hU hW => ⟨rfl, by rw [hU], by rw [hU]; exact hP.sub is (sub_of hC), (hJ.1.sub is hn hC).weaken (fun _ _ _ _ => trivial), C.2.2.2.2.2.2.warm hW, Y.1.warm hW, Y.2.1.at hJ.2 hF hU hW, Y.2.2.warm hW⟩
/-- a call of such a body -/
theorem g_fHi (C : Cx p s m meth c κ own cc nL ret) (hA : ∀ q, s.heap.size ≤ q → A q) (Y : ES strL s ∧ ST A s ∧ NC ncL s) (L : LH own idx y cb yL hh nA) {post : Int32 → va_W → Prop} (hM : CHi l y cb yL hh d mc ms κ av wc post) (hp0 : ws.Perm (wr ++ wc)) (hlen : av.length = nA) (hcat : (st.map fun v => v.category).sum ≤ 8) (hR : d + 9 ≤ R.frames ∧ 219 + yL + 40 * d ≤ R.locals) (hf : k + mc ≤ R.cells ∧ n + ms ≤ R.slots) {stk : List Value} (hst : av.reverse ++ st = stk) (hd : decode cc pc = .ok (.invokestatic idx, 3)) (hp : pc + 3 = pc') (K : ∀ r w1, post r w1 → G p l e R s m args below meth c κ nL (JM A s) (wr ++ w1) (k + mc) (n + ms) Q pc' lv (.int r :: st)) : G p l e R s m args below meth c κ nL (JM A s) ws k n Q pc lv stk := by
  refine g_perm hp0 ?_
  subst hp; subst hst
  intro H locs ls hP hJ hl
  have hC := idx_C wr wc
  have hnd := idx_nd wr wc
  have hF := va_free hJ.1 hJ.2 hA _ hC
  have S : CallFix p m c cc nL s args T1 own := ⟨C.1, C.2.1, C.2.2.1, C.2.2.2.2.2.1, fun w hw => C.2.2.2.2.2.2.2 w hw args⟩
  refine va_calli (vx_runSW S (hM H.size) (cs_of C L hR) ⟨PcH.blind, g_preH C Y hP hJ hC hnd.1 hF _⟩ rfl hlen hl.1 rfl (lv_room hcat) hd hf) hJ.2 (fun q _ h => hF q h) hF (fun r u t H1 locs1 ht hvm hw hB hz1 hk1 hS1 => ?_)
  obtain ⟨hP1, hD1⟩ := va_join hP hJ.1 _ _ hC (idx_R wr wc) hnd.2.1 hnd.2.2 hk1 hF (by rw [← ht]; exact hB.1) hB.2
  exact K r u hw H1 locs1 ls hP1 ⟨hD1, hS1⟩ hl
end HC
end GR
section FRH
variable {l : Launch} {y : MethodName} {cb : ByteArray} {yL : Nat} {hh : List (Nat × Nat × Nat × Nat)} {d mc ms : Nat} {κ : KK} {av : List Value} {ws wc wr : va_W}
theorem fr_preH {sz : Nat} {a : Array Value} {U : State} (hp : ws.Perm (wr ++ wc)) (h : PcH κ av ws sz a U) : PcH κ av wc sz a U := by
  obtain ⟨h1, h2, h3, h4, h5, h6, h7, h8⟩ := h
  have hs : ∀ q ∈ wc, q ∈ ws := fun q hq => hp.mem_iff.mpr (List.mem_append_right _ hq)
  exact ⟨h1, h2, h3.of_sub hs, (h4.perm hp).sub _ (idx_nd wr wc).1 (idx_C wr wc), h5, h6, ⟨h7.1.narrow (fun q hq => va_A.of_sub hs hq), h7.2.narrow (fun q hq => va_A.of_sub hs hq)⟩, h8⟩
theorem CHi.frame {post : Int32 → va_W → Prop} {post' : Int32 → va_W → Prop} (hM : CHi l y cb yL hh d mc ms κ av wc post) (hp : ws.Perm (wr ++ wc)) (hq : ∀ r w1, post r w1 → post' r (wr ++ w1)) : CHi l y cb yL hh d mc ms κ av ws post' := by
  intro sz
  refine MetFree.mono (hM sz) (fun a s h => fr_preH hp h) (fun _ _ _ _ _ _ => trivial) (fun a st o t hpre h => ?_)
  obtain ⟨⟨⟨r, u, e, h1, h2, h3⟩, h4⟩, L, h5, h6⟩ := h
  obtain ⟨j1, j2⟩ := fr_join hp ⟨hpre.1, hpre.2.1, hpre.2.2.1, hpre.2.2.2.1, hpre.2.2.2.2.1⟩ h4 h2 h3
  exact ⟨⟨⟨r, _, e, hq r u h1, j1, j2⟩, h4.of_sub (pm_sub hp)⟩, L, h5, fun q hq => va_A.of_sub (pm_sub hp) (h6 q hq)⟩
end FRH
theorem cx_13 : Cond.classLink RL 13 E_IAE ∈ T1 := wdT 325 (by decide +kernel) (by decide +kernel)
theorem cx_15 : Cond.classLink RL 15 E_ISE ∈ T1 := wdT 326 (by decide +kernel) (by decide +kernel)
theorem cx_21 : Cond.classLink RL 21 E_IOB ∈ T1 := wdT 427 (by decide +kernel) (by decide +kernel)
theorem cx_40 : Cond.classLink RL 40 E_NSE ∈ T1 := wdT 550 (by decide +kernel) (by decide +kernel)
theorem kx_13 : Cond.castable E_IAE E_IAE ∈ T1 := wdT 333 (by decide +kernel) (by decide +kernel)
theorem kx_15 : Cond.castable E_ISE E_ISE ∈ T1 := wdT 406 (by decide +kernel) (by decide +kernel)
theorem kx_21 : Cond.castable E_IOB E_IOB ∈ T1 := wdT 437 (by decide +kernel) (by decide +kernel)
theorem kx_40 : Cond.castable E_NSE E_NSE ∈ T1 := wdT 561 (by decide +kernel) (by decide +kernel)
theorem nc_E_ISE_E_IAE : (E_ISE, E_IAE) ∈ ncL := List.mem_of_getElem? (i := 0) rfl
theorem nc_E_ISE_E_IOB : (E_ISE, E_IOB) ∈ ncL := List.mem_of_getElem? (i := 1) rfl
theorem nc_E_IAE_E_IOB : (E_IAE, E_IOB) ∈ ncL := List.mem_of_getElem? (i := 2) rfl
theorem nc_E_NSE_E_IOB : (E_NSE, E_IOB) ∈ ncL := List.mem_of_getElem? (i := 3) rfl
theorem nc_E_ISE_E_NSE : (E_ISE, E_NSE) ∈ ncL := List.mem_of_getElem? (i := 4) rfl
