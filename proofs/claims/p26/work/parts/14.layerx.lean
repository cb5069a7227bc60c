/-! ===== methods that may throw: what they throw leaves the world as it was ===== -/
def XPw (κ : KK) (wc : va_W) (sz : Nat) (es : String → Prop) : String → State → State → Prop := vx_X (fun _ : Unit => True) (fun E _ t => es E ∧ va_P κ.1 vwCl wc t.heap) (va_A wc sz)
def CYi (l : Launch) (y : MethodName) (cb : ByteArray) (yL : Nat) (yr : Option FieldType) (d mc ms : Nat) (κ : KK) (av : List Value) (wc : va_W) (es : String → Prop) (post : Int32 → va_W → Prop) : Prop := ∀ sz, vx_Met l y [.code y cb yL yr] (rmv d mc ms) (PcX κ av wc sz) (QMi κ wc sz post) (XPw κ wc sz es) mc ms (va_A wc sz)
def CYv (l : Launch) (y : MethodName) (cb : ByteArray) (yL : Nat) (yr : Option FieldType) (d mc ms : Nat) (κ : KK) (av : List Value) (wc : va_W) (es : String → Prop) (post : va_W → Prop) : Prop := ∀ sz, vx_Met l y [.code y cb yL yr] (rmv d mc ms) (PcX κ av wc sz) (QMv κ wc sz post) (XPw κ wc sz es) mc ms (va_A wc sz)
section GR
variable {p : Program} {l : Launch} {e : Env} {R : Room} {s : State} {m : MethodId} {args : Array Value} {below : List Frame} {meth : Method} {c : Code} {κ : KK} {own : String} {cc : ByteArray} {nL : Nat} {ret : Option FieldType}
variable {J : JJ} {ws : va_W} {k n : Nat} {Q : State → Prop} {pc pc' : Nat} {lv : List (Nat × Value)} {st : List Value}
theorem cyi_of {y : MethodName} {cb : ByteArray} {yL : Nat} {yr : Option FieldType} {d mc ms : Nat} {av : List Value} {wc : va_W} {es : String → Prop} {post : Int32 → va_W → Prop} (hst : l.stackTraces = false) (own : String) (hown : y.cls = own) (hy : plainName y.cls = true) (hn : (lg_sl av).length ≤ yL)
    (body : ∀ (p : Program) (e : Env) (s : State) (m : MethodId) (below : List Frame) (meth : Method) (c : Code) (A : Nat → Prop), Cx p s m meth c κ own cb yL yr → Cy l s c A → A = va_A wc s.heap.size → (∀ q, s.heap.size ≤ q → A q) → G p l e (rmv d mc ms) s m av.toArray below meth c κ yL (JM A s) wc 0 0 (vx_MQ below (QMi κ wc s.heap.size post) (XPw κ wc s.heap.size es) av.toArray s mc ms A) 0 (lv_args 0 av) []) : CYi l y cb yL yr d mc ms κ av wc es post := by
  intro sz
  refine vx_ofW (cc := cb) (maxL := yL) (ret := yr) hy rfl ?_
  intro p e s m args below meth c s₁ B hml ht hv
  obtain ⟨rfl, rfl, hP, hD, hE, hS, hT⟩ := hv
  have hl := lv_entry av (n := yL) hn
  rw [lg_entry_eq]
  exact body p e s m below meth c _ ⟨B.exec, B.bytes, hml, B.returns, B.notSynchronized, by rw [← hown]; exact findClass_of_methodNamed B.named, hE⟩ ⟨hst, ht, hS, hT⟩ rfl (fun q h => Or.inr h) s.heap [] _ hP ⟨hD.self, va_S.rf⟩ hl
theorem cyv_of {y : MethodName} {cb : ByteArray} {yL : Nat} {yr : Option FieldType} {d mc ms : Nat} {av : List Value} {wc : va_W} {es : String → Prop} {post : va_W → Prop} (hst : l.stackTraces = false) (own : String) (hown : y.cls = own) (hy : plainName y.cls = true) (hn : (lg_sl av).length ≤ yL)
    (body : ∀ (p : Program) (e : Env) (s : State) (m : MethodId) (below : List Frame) (meth : Method) (c : Code) (A : Nat → Prop), Cx p s m meth c κ own cb yL yr → Cy l s c A → A = va_A wc s.heap.size → (∀ q, s.heap.size ≤ q → A q) → G p l e (rmv d mc ms) s m av.toArray below meth c κ yL (JM A s) wc 0 0 (vx_MQ below (QMv κ wc s.heap.size post) (XPw κ wc s.heap.size es) av.toArray s mc ms A) 0 (lv_args 0 av) []) : CYv l y cb yL yr d mc ms κ av wc es post := by
  intro sz
  refine vx_ofW (cc := cb) (maxL := yL) (ret := yr) hy rfl ?_
  intro p e s m args below meth c s₁ B hml ht hv
  obtain ⟨rfl, rfl, hP, hD, hE, hS, hT⟩ := hv
  have hl := lv_entry av (n := yL) hn
  rw [lg_entry_eq]
  exact body p e s m below meth c _ ⟨B.exec, B.bytes, hml, B.returns, B.notSynchronized, by rw [← hown]; exact findClass_of_methodNamed B.named, hE⟩ ⟨hst, ht, hS, hT⟩ rfl (fun q h => Or.inr h) s.heap [] _ hP ⟨hD.self, va_S.rf⟩ hl
/-- the site of a throw: the class, its words -/
def xnames : List String := ["java/lang/RuntimeException", "java/lang/Exception"]
def TH (own cls : String) (ik ic : Nat) : Prop := Bundle.fit cls = true ∧ Cond.classLink own ik cls ∈ T1 ∧ Cond.initialized cls ∈ T1 ∧ (∀ w ∈ vx_atS own ic cls xnames, w ∈ T1) ∧ ∀ w ∈ Cond.classLink own ik cls :: Cond.initialized cls :: vx_atS own ic cls xnames, vx_ot w = true
theorem g_throw (C : Cx p s m meth c κ own cc nL ret) {A : Nat → Prop} (Y : Cy l s c A) {cls : String} {ik ic is : Nat} (F : TH own cls ik ic) {tx : String} (hstr : (own, is, tx) ∈ strL) {wc : va_W} {mc ms : Nat} {es : String → Prop} {Qc : Array Value → State → Outcome → State → Prop} (hAe : A = va_A wc s.heap.size) (hes : es cls) (hcat : (st.map fun v => v.category).sum ≤ 8) (hR : 5 < R.frames ∧ 90 ≤ R.locals) (h1 : k + 1 ≤ R.cells) (h2 : n + 6 ≤ R.slots) (h3 : k + 1 ≤ mc) (h4 : n + 6 ≤ ms) (is9 : List Nat) (hB : is9.map (fun i => ws[i]?) = wc.map some)
    (d0 : decode cc pc = .ok (.new ik, 3)) (d3 : decode cc (pc + 3) = .ok (.dup, 1)) (d4 : decode cc (pc + 4) = .ok (.ldc is, 2)) (d6 : decode cc (pc + 6) = .ok (.invokespecial ic, 3)) (d9 : decode cc (pc + 9) = .ok (.athrow, 1)) : G p l e R s m args below meth c κ nL (JM A s) ws k n (vx_MQ below Qc (XPw κ wc s.heap.size es) args s mc ms A) pc lv st := by
  obtain ⟨f1, f2, f3, f4, f5⟩ := F
  obtain ⟨hx, hb, hml, -, hlocks, hown, hK, hE⟩ := C
  obtain ⟨hl0, hht, hES, hST⟩ := Y
  intro H locs ls hP hJ hl
  obtain ⟨sa, hsa⟩ := hES _ hstr
  refine vx_throwS (A := A) (mc := mc) (ms := ms) hx hb hl0 hown f1 (by decide) (hE _ f2 args) (hE _ f3 args) hsa (fun w hw => hE w (f4 w hw) args) f5 hST.1 hST.2 hJ.2 (hl.1.trans hml.symm) d0 d3 d4 d6 d9 (fun x hx => (hht x hx).elim) (by show 2 + 3 < _; exact hR.1) (by show _ + (13 * (2 + 1) + 43) ≤ _; have := hR.2; omega) h1 h2 hlocks (fun t hvm hz hq => ?_) hJ.2.2.2 h3 h4
  have hPw := hP.sub is9 (sub_of hB)
  refine ⟨(), trivial, ⟨hes, hPw.kept (fun j q hj => hq q.1 ((hPw j q hj).lt))⟩, ?_⟩
  subst hAe
  refine ⟨Nat.le_trans hJ.2.1 hz, fun q q1 q2 => ?_⟩
  rw [hq q (Nat.lt_of_lt_of_le q1 hJ.2.1)]
  exact hJ.2.2.1 q q1 q2
theorem g_throwW (C : Cx p s m meth c κ own cc nL ret) {A : Nat → Prop} (Y : Cy l s c A) {cls : String} {ik ic is : Nat} (F : TH own cls ik ic) {tx : String} (hstr : (own, is, tx) ∈ strL) {wc : va_W} {mc ms : Nat} {es : String → Prop} {Qc : Array Value → State → Outcome → State → Prop} (hAe : A = va_A wc s.heap.size) (hes : es cls) (hcat : (st.map fun v => v.category).sum ≤ 8) (hR : 5 < R.frames ∧ 90 ≤ R.locals) (h1 : k + 1 ≤ R.cells) (h2 : n + 6 ≤ R.slots) (h3 : k + 1 ≤ mc) (h4 : n + 6 ≤ ms) (is9 : List Nat) (hB : is9.map (fun i => ws[i]?) = wc.map some)
    (d0 : decode cc pc = .ok (.new ik, 3)) (d3 : decode cc (pc + 3) = .ok (.dup, 1)) (d4 : decode cc (pc + 4) = .ok (.ldc_w is, 3)) (d7 : decode cc (pc + 7) = .ok (.invokespecial ic, 3)) (d10 : decode cc (pc + 10) = .ok (.athrow, 1)) : G p l e R s m args below meth c κ nL (JM A s) ws k n (vx_MQ below Qc (XPw κ wc s.heap.size es) args s mc ms A) pc lv st := by
  obtain ⟨f1, f2, f3, f4, f5⟩ := F
  obtain ⟨hx, hb, hml, -, hlocks, hown, hK, hE⟩ := C
  obtain ⟨hl0, hht, hES, hST⟩ := Y
  intro H locs ls hP hJ hl
  obtain ⟨sa, hsa⟩ := hES _ hstr
  refine vx_throwSW (A := A) (mc := mc) (ms := ms) hx hb hl0 hown f1 (by decide) (hE _ f2 args) (hE _ f3 args) hsa (fun w hw => hE w (f4 w hw) args) f5 hST.1 hST.2 hJ.2 (hl.1.trans hml.symm) d0 d3 d4 d7 d10 (fun x hx => (hht x hx).elim) (by show 2 + 3 < _; exact hR.1) (by show _ + (13 * (2 + 1) + 43) ≤ _; have := hR.2; omega) h1 h2 hlocks (fun t hvm hz hq => ?_) hJ.2.2.2 h3 h4
  have hPw := hP.sub is9 (sub_of hB)
  refine ⟨(), trivial, ⟨hes, hPw.kept (fun j q hj => hq q.1 ((hPw j q hj).lt))⟩, ?_⟩
  subst hAe
  refine ⟨Nat.le_trans hJ.2.1 hz, fun q q1 q2 => ?_⟩
  rw [hq q (Nat.lt_of_lt_of_le q1 hJ.2.1)]
  exact hJ.2.2.1 q q1 q2
theorem g_xrunV (C : Cx p s m meth c κ own cc nL ret) {idx : Nat} {y : MethodName} {cb : ByteArray} {yL : Nat} {yr : Option FieldType} {nA d mc ms : Nat} (h0 : Cond.methodLink own idx y ∈ T1) (L : LV own idx y cb yL yr nA) {Pc : Array Value → State → Prop} {Qc : Array Value → State → Outcome → State → Prop} {XC : String → State → State → Prop} {free : Addr → Prop} (hM : vx_Met l y [.code y cb yL yr] (rmv d mc ms) Pc Qc XC mc ms free) {H : Heap} {locs : List Loc} {ls : Array Slot} {b : Nat} {av : List Value} (hp : PreV s H y.cls b Pc av) (hlen : av.length = nA) (hls : ls.size = nL) (hcat : (st.map fun v => v.category).sum ≤ 8) (hR : d + 9 ≤ R.frames ∧ 219 + yL + 40 * d ≤ R.locals) (hf : k + mc ≤ R.cells ∧ n + ms ≤ R.slots) {stk : List Value} (hst : av.reverse ++ .ref b :: st = stk) (hd : decode cc pc = .ok (.invokevirtual idx, 3)) :
    vx_Run p l e R s m args below meth c H locs k n mc ms (F0 m pc ls stk) st (Qc (Value.ref b :: av).toArray) XC free := by
  subst hst
  obtain ⟨-, h2, h3, h4, h5, h6⟩ := L
  have S : CallFix p m c cc nL s args T1 own := ⟨C.1, C.2.1, C.2.2.1, C.2.2.2.2.2.1, fun w hw => C.2.2.2.2.2.2.2 w hw args⟩
  exact vx_runV S hM ⟨cb_of C h0 h4 h5 h6 hR, C.2.2.2.2.2.2.2 _ h2 args, C.2.2.2.2.2.2.2 _ h3 args⟩ hp rfl hlen hls rfl (lv_room hcat) hd hf
theorem g_xrunS (C : Cx p s m meth c κ own cc nL ret) {idx : Nat} {y : MethodName} {cb : ByteArray} {yL : Nat} {yr : Option FieldType} {nA d mc ms : Nat} (h0 : Cond.methodLink own idx y ∈ T1) (L : LSt own idx y cb yL yr nA) {Pc : Array Value → State → Prop} {Qc : Array Value → State → Outcome → State → Prop} {XC : String → State → State → Prop} {free : Addr → Prop} (hM : vx_Met l y [.code y cb yL yr] (rmv d mc ms) Pc Qc XC mc ms free) {H : Heap} {locs : List Loc} {ls : Array Slot} {av : List Value} (hp : PreS s H Pc av) (hlen : av.length = nA) (hls : ls.size = nL) (hcat : (st.map fun v => v.category).sum ≤ 8) (hR : d + 9 ≤ R.frames ∧ 219 + yL + 40 * d ≤ R.locals) (hf : k + mc ≤ R.cells ∧ n + ms ≤ R.slots) {stk : List Value} (hst : av.reverse ++ st = stk) (hd : decode cc pc = .ok (.invokestatic idx, 3)) :
    vx_Run p l e R s m args below meth c H locs k n mc ms (F0 m pc ls stk) st (Qc av.toArray) XC free := by
  subst hst
  obtain ⟨-, h2, h4, h5, h6⟩ := L
  have S : CallFix p m c cc nL s args T1 own := ⟨C.1, C.2.1, C.2.2.1, C.2.2.2.2.2.1, fun w hw => C.2.2.2.2.2.2.2 w hw args⟩
  exact vx_runS S hM ⟨cb_of C h0 h4 h5 h6 hR, C.2.2.2.2.2.2.2 _ h2 args⟩ hp rfl hlen hls rfl (lv_room hcat) hd hf
theorem ST.at {A B : Nat → Prop} {s U : State} {H : Heap} {locs : List Loc} (h : ST A s) (hS : va_S A s.heap H locs) (hB : ∀ q, B q → A q) (hU : U.heap = H) (hW : s.WarmedH U.vm) : ST B U := by
  subst hU
  exact ⟨vx_Zq.moved hW.alike ((h.1.kept hS.2.1).narrow hB), vx_Zq.moved hW.alike ((h.2.kept hS.2.1).narrow hB)⟩
theorem g_preX (C : Cx p s m meth c κ own cc nL ret) {H : Heap} {A : Nat → Prop} (Y : ES strL s ∧ ST A s) {locs : List Loc} (hP : va_P κ.1 vwCl ws H) (hJ : JM A s ws H locs) {wc : va_W} {is : List Nat} (hC : is.map (fun i => ws[i]?) = wc.map some) (hn : va_nd is = true) (hF : ∀ q, va_A wc H.size q → A q) (av : List Value) : ∀ U : State, U.heap = H → s.WarmedH U.vm → PcX κ av wc H.size av.toArray U :=
  fun U hU hW => ⟨rfl, by rw [hU], by rw [hU]; exact hP.sub is (sub_of hC), (hJ.1.sub is hn hC).weaken (fun _ _ _ _ => trivial), C.2.2.2.2.2.2.warm hW, Y.1.warm hW, Y.2.at hJ.2 hF hU hW⟩
/-- it threw: out of this method too -/
theorem g_xout (C : Cx p s m meth c κ own cc nL ret) {A : Nat → Prop} (Y : Cy l s c A) {wcC : va_W} {mcC msC : Nat} {es' : String → Prop} {Qc : Array Value → State → Outcome → State → Prop} (hAe : A = va_A wcC s.heap.size) {H1 : Heap} {locs1 : List Loc} {E : String} {ce : Cell} {q9 : Addr} {ls : Array Slot} (hes : es' E) (hP1 : va_P κ.1 vwCl wcC H1) (hS1 : va_S A s.heap H1 locs1) (hc : H1[q9]? = some ce) (hv : ce.vm = .none) (hcl : s.vm.findClass E = some ce.cls) (h1 : k ≤ mcC) (h2 : n ≤ msC) : vx_W p l e R s m args below meth c H1 locs1 k n (vx_MQ below Qc (XPw κ wcC s.heap.size es') args s mcC msC A) (F0 m pc ls st) q9 := by
  refine vx_out (fun x hx => (Y.2.1 x hx).elim) C.2.2.2.2.1 hc hv hcl (fun t ht _ => ⟨(), trivial, ⟨hes, by rw [ht]; exact hP1⟩, ?_⟩) hS1.2.2 h1 h2
  subst hAe
  exact hS1.F ht
section YC
variable {A : Nat → Prop} {idx : Nat} {y : MethodName} {cb : ByteArray} {yL : Nat} {yr : Option FieldType} {nA d mc ms : Nat} {b : Nat} {av : List Value} {wc wr wcC : va_W} {es es' : String → Prop} {mcC msC : Nat} {Qc : Array Value → State → Outcome → State → Prop}
theorem g_callYv (C : Cx p s m meth c κ own cc nL ret) (Y : Cy l s c A) (hA : ∀ q, s.heap.size ≤ q → A q) (hAe : A = va_A wcC s.heap.size) (h0 : Cond.methodLink own idx y ∈ T1) (L : LV own idx y cb yL yr nA) {post : va_W → Prop} (hM : CYv l y cb yL yr d mc ms κ (.ref b :: av) wc es post) (q0 : Nat) {ci : Nat} {fs : List Value} (he : ws[q0]? = some (b, .inr (ci, fs))) (hc : (vwCl[ci]?).map (fun q => q.1) = some y.cls) (isC isR : List Nat) (hC : isC.map (fun i => ws[i]?) = wc.map some) (hRr : isR.map (fun i => ws[i]?) = wr.map some) (hnd : va_nd isC = true ∧ va_nd isR = true ∧ ∀ i ∈ isR, i ∉ isC) (isB : List Nat) (hB : isB.map (fun i => (wr ++ wc)[i]?) = wcC.map some) (hes : ∀ E, es E → es' E) (hk9 : k + mc ≤ mcC ∧ n + ms ≤ msC) (hlen : av.length = nA) (hcat : (st.map fun v => v.category).sum ≤ 8) (hR : d + 9 ≤ R.frames ∧ 219 + yL + 40 * d ≤ R.locals) (hf : k + mc ≤ R.cells ∧ n + ms ≤ R.slots) {stk : List Value} (hst : av.reverse ++ .ref b :: st = stk) (hd : decode cc pc = .ok (.invokevirtual idx, 3)) (hp : pc + 3 = pc') (K : ∀ w1, post w1 → G p l e R s m args below meth c κ nL (JM A s) (wr ++ w1) (k + mc) (n + ms) (vx_MQ below Qc (XPw κ wcC s.heap.size es') args s mcC msC A) pc' lv st) : G p l e R s m args below meth c κ nL (JM A s) ws k n (vx_MQ below Qc (XPw κ wcC s.heap.size es') args s mcC msC A) pc lv stk := by
  subst hp
  intro H locs ls hP hJ hl
  have hF := va_free hJ.1 hJ.2 hA isC hC
  refine vx_callv (g_xrunV C h0 L (hM H.size) ⟨PcX.blind, g_recv C hP q0 he hc, g_preX C Y.2.2 hP hJ hC hnd.1 hF _⟩ hlen hl.1 hcat hR hf hst hd) hJ.2 (fun q _ h => hF q h) hF (fun q _ h => hF q h) (fun E ce q9 u t H1 locs1 ht hvm hpx hBX hz1 hk1 hS1 hce hv hcl => ?_) (fun u t H1 locs1 ht hvm hw hB9 hz1 hk1 hS1 => ?_)
  · obtain ⟨hP1, -⟩ := va_join hP hJ.1 isC isR hC hRr hnd.2.1 hnd.2.2 hk1 hF (by rw [← ht]; exact hBX.2) ((hJ.1.sub isC hnd.1 hC).self)
    exact g_xout C Y hAe (hes E hBX.1) (hP1.sub isB (sub_of hB)) hS1 hce hv hcl hk9.1 hk9.2
  · obtain ⟨hP1, hD1⟩ := va_join hP hJ.1 isC isR hC hRr hnd.2.1 hnd.2.2 hk1 hF (by rw [← ht]; exact hB9.1) hB9.2
    exact K u hw H1 locs1 ls hP1 ⟨hD1, hS1⟩ hl
theorem g_callYSv (C : Cx p s m meth c κ own cc nL ret) (Y : Cy l s c A) (hA : ∀ q, s.heap.size ≤ q → A q) (hAe : A = va_A wcC s.heap.size) (h0 : Cond.methodLink own idx y ∈ T1) (L : LSt own idx y cb yL yr nA) {post : va_W → Prop} (hM : CYv l y cb yL yr d mc ms κ av wc es post) (isC isR : List Nat) (hC : isC.map (fun i => ws[i]?) = wc.map some) (hRr : isR.map (fun i => ws[i]?) = wr.map some) (hnd : va_nd isC = true ∧ va_nd isR = true ∧ ∀ i ∈ isR, i ∉ isC) (isB : List Nat) (hB : isB.map (fun i => (wr ++ wc)[i]?) = wcC.map some) (hes : ∀ E, es E → es' E) (hk9 : k + mc ≤ mcC ∧ n + ms ≤ msC) (hlen : av.length = nA) (hcat : (st.map fun v => v.category).sum ≤ 8) (hR : d + 9 ≤ R.frames ∧ 219 + yL + 40 * d ≤ R.locals) (hf : k + mc ≤ R.cells ∧ n + ms ≤ R.slots) {stk : List Value} (hst : av.reverse ++ st = stk) (hd : decode cc pc = .ok (.invokestatic idx, 3)) (hp : pc + 3 = pc') (K : ∀ w1, post w1 → G p l e R s m args below meth c κ nL (JM A s) (wr ++ w1) (k + mc) (n + ms) (vx_MQ below Qc (XPw κ wcC s.heap.size es') args s mcC msC A) pc' lv st) : G p l e R s m args below meth c κ nL (JM A s) ws k n (vx_MQ below Qc (XPw κ wcC s.heap.size es') args s mcC msC A) pc lv stk := by
  subst hp
  intro H locs ls hP hJ hl
  have hF := va_free hJ.1 hJ.2 hA isC hC
  refine vx_callv (g_xrunS C h0 L (hM H.size) ⟨PcX.blind, g_preX C Y.2.2 hP hJ hC hnd.1 hF _⟩ hlen hl.1 hcat hR hf hst hd) hJ.2 (fun q _ h => hF q h) hF (fun q _ h => hF q h) (fun E ce q9 u t H1 locs1 ht hvm hpx hBX hz1 hk1 hS1 hce hv hcl => ?_) (fun u t H1 locs1 ht hvm hw hB9 hz1 hk1 hS1 => ?_)
  · obtain ⟨hP1, -⟩ := va_join hP hJ.1 isC isR hC hRr hnd.2.1 hnd.2.2 hk1 hF (by rw [← ht]; exact hBX.2) ((hJ.1.sub isC hnd.1 hC).self)
    exact g_xout C Y hAe (hes E hBX.1) (hP1.sub isB (sub_of hB)) hS1 hce hv hcl hk9.1 hk9.2
  · obtain ⟨hP1, hD1⟩ := va_join hP hJ.1 isC isR hC hRr hnd.2.1 hnd.2.2 hk1 hF (by rw [← ht]; exact hB9.1) hB9.2
    exact K u hw H1 locs1 ls hP1 ⟨hD1, hS1⟩ hl
end YC
end GR
def E_IAE : String := "java/lang/IllegalArgumentException"
theorem wx_IAE : ∀ w ∈ vx_atS RX8 62 "java/lang/IllegalArgumentException" xnames, w ∈ lw_tbl := by decide +kernel
theorem th_IAE : TH RX8 "java/lang/IllegalArgumentException" 58 62 := ⟨by decide +kernel, (wdT 189 (by decide +kernel) (by decide +kernel)), (wdT 50 (by decide +kernel) (by decide +kernel)), fun w hw => List.mem_filter.mpr ⟨wx_IAE w hw, (show ∀ w ∈ vx_atS RX8 62 "java/lang/IllegalArgumentException" xnames, enW w = true by decide +kernel) w hw⟩, by decide +kernel⟩
def E_ISE : String := "java/lang/IllegalStateException"
theorem wx_ISE : ∀ w ∈ vx_atS RX8 73 "java/lang/IllegalStateException" xnames, w ∈ lw_tbl := by decide +kernel
theorem th_ISE : TH RX8 "java/lang/IllegalStateException" 69 73 := ⟨by decide +kernel, (wdT 262 (by decide +kernel) (by decide +kernel)), (wdT 51 (by decide +kernel) (by decide +kernel)), fun w hw => List.mem_filter.mpr ⟨wx_ISE w hw, (show ∀ w ∈ vx_atS RX8 73 "java/lang/IllegalStateException" xnames, enW w = true by decide +kernel) w hw⟩, by decide +kernel⟩
def E_IOB : String := "java/lang/IndexOutOfBoundsException"
theorem wx_IOB : ∀ w ∈ vx_atS RX8 222 "java/lang/IndexOutOfBoundsException" xnames, w ∈ lw_tbl := by decide +kernel
theorem th_IOB : TH RX8 "java/lang/IndexOutOfBoundsException" 218 222 := ⟨by decide +kernel, (wdT 289 (by decide +kernel) (by decide +kernel)), (wdT 52 (by decide +kernel) (by decide +kernel)), fun w hw => List.mem_filter.mpr ⟨wx_IOB w hw, (show ∀ w ∈ vx_atS RX8 222 "java/lang/IndexOutOfBoundsException" xnames, enW w = true by decide +kernel) w hw⟩, by decide +kernel⟩
def E_NSE : String := "java/util/NoSuchElementException"
def nse_no : List Cond := (nse_at RX8 229).filter vx_no
theorem nse_w1 : ∀ w ∈ nse_no, w ∈ lw_tbl := by decide +kernel
theorem nse_w2 : ∀ w ∈ nse_no, enW w = true := by decide +kernel
theorem nse_w3 : ∀ w ∈ Cond.classLink RX8 225 nse_X :: Cond.initialized nse_X :: nse_no, vx_ot w = true := by decide +kernel
theorem nse_ws : Cond.classLink RX8 225 nse_X ∈ T1 ∧ Cond.initialized nse_X ∈ T1 ∧ ∀ w ∈ nse_no, w ∈ T1 := ⟨(wdT 392 (by decide +kernel) (by decide +kernel)), (wdT 59 (by decide +kernel) (by decide +kernel)), fun w hw => List.mem_filter.mpr ⟨nse_w1 w hw, nse_w2 w hw⟩⟩
section NSEg
variable {p : Program} {l : Launch} {e : Env} {R : Room} {s : State} {m : MethodId} {args : Array Value} {below : List Frame} {meth : Method} {c : Code} {κ : KK} {cc : ByteArray} {nL : Nat} {ret : Option FieldType}
variable {ws : va_W} {k n : Nat} {pc : Nat} {lv : List (Nat × Value)} {st : List Value}
/-- 'throw new NoSuchElementException("..")' in the class -/
theorem g_throwN (C : Cx p s m meth c κ RX8 cc nL ret) {A : Nat → Prop} (Y : Cy l s c A) {is : Nat} {tx : String} (hstr : (RX8, is, tx) ∈ strL) {wc : va_W} {mc ms : Nat} {es : String → Prop} {Qc : Array Value → State → Outcome → State → Prop} (hAe : A = va_A wc s.heap.size) (hes : es nse_X) (hcat : (st.map fun v => v.category).sum ≤ 8) (hR : 5 < R.frames ∧ 100 ≤ R.locals) (h1 : k + 1 ≤ R.cells) (h2 : n + 6 ≤ R.slots) (h3 : k + 1 ≤ mc) (h4 : n + 6 ≤ ms) (is9 : List Nat) (hB : is9.map (fun i => ws[i]?) = wc.map some)
    (d0 : decode cc pc = .ok (.new 225, 3)) (d3 : decode cc (pc + 3) = .ok (.dup, 1)) (d4 : decode cc (pc + 4) = .ok (.ldc is, 2)) (d6 : decode cc (pc + 6) = .ok (.invokespecial 229, 3)) (d9 : decode cc (pc + 9) = .ok (.athrow, 1)) : G p l e R s m args below meth c κ nL (JM A s) ws k n (vx_MQ below Qc (XPw κ wc s.heap.size es) args s mc ms A) pc lv st := by
  obtain ⟨hexec, hb, hml, -, hlocks, hown, hK, hE⟩ := C
  obtain ⟨hl0, hht, hES, hST⟩ := Y
  intro H locs ls hP hJ hl T hT X
  have hS : va_S A s.heap H locs := hJ.2
  have hPw := hP.sub is9 (sub_of hB)
  obtain ⟨sa, hsa⟩ := hES _ hstr
  have htr : e.platform.stackTraces = false := (show e.platform.stackTraces = l.stackTraces by rw [X.admits.platform]).trans hl0
  have Z := vx_rebase X (R' := { frames := R.frames, locals := R.locals, cells := 1, slots := 6 }) (Nat.le_refl _) (Nat.le_refl _) h1 h2
  obtain ⟨s', hA⟩ : ∃ z, z = (T.setVm s.vm).setFrames (.invoking m args :: below) := ⟨_, rfl⟩
  rw [← hA] at Z
  have hvm : s'.vm = s.vm := by rw [hA]; rfl
  have hhp : s'.heap = H := by rw [hA]; exact hT
  have hW0 : s.WarmedH s'.vm := by rw [hvm]; exact State.WarmedH.refl s
  have hw9 (w : Cond) (h : w ∈ T1) (hg : vx_ot w = true) : w.before args s' = true := vx_ot_at hW0 hvm.symm hg (hE w h args)
  have hUS : vx_Zq Bundle.tN "UNASSIGNED_STACK" Bundle.steD A s' s'.heap := by rw [hhp]; exact vx_Zq.moved hW0.alike (hST.1.kept hS.2.1)
  have hNS : vx_Zq Bundle.tN "SUPPRESSED_SENTINEL" Bundle.listD A s' s'.heap := by rw [hhp]; exact vx_Zq.moved hW0.alike (hST.2.kept hS.2.1)
  have h : ∀ w ∈ nse_at RX8 229, w.before args s' = true := vx_own (L := nse_at RX8 229) (fun w hw => hw9 w (nse_ws.2.2 w hw) (nse_w3 w (List.mem_cons_of_mem _ (List.mem_cons_of_mem _ hw)))) (vx_isRefq hUS.1) (vx_isRefq hNS.1) hUS.2.word hNS.2.word
  have hown' : s'.vm.findClass RX8 = some m.cls := by rw [hvm]; exact hown
  obtain ⟨vm₁, cX, kX, hfX, hkX, -, -, X₁, st1⟩ := Z.newCold hexec (own := RX8) (C := nse_X) (index := 225) (n := 6) hown' (hw9 _ nse_ws.1 (nse_w3 _ List.mem_cons_self)) (h _ (by simp [nse_at, nse_rest])) (hw9 _ nse_ws.2.1 (nse_w3 _ (List.mem_cons_of_mem _ List.mem_cons_self)))
    (g := F0 m pc ls st) rfl (by rw [hb]; exact d0) (Nat.le_refl _) (Nat.le_refl _)
  generalize hT1 : (T.setVm vm₁).pushCell { cls := cX, slots := kX.instanceTypes.map defaultValue, vm := .none } = T1 at X₁ st1
  have hcat1 : (Value.ref T.heap.size).category = 1 := rfl
  have hcellA : T1.heap[T.heap.size]? = some (freshCell cX kX) := by rw [← hT1]; exact State.heap_pushCell_size _ _
  obtain ⟨U, hsteps, hrun, hend, hW, hsame, ce, hce, hcv, hcc⟩ := nse_thrown X₁ hexec htr (own := RX8) (ic := 229) hown' h (fun x hx => nomatch hx) hfX hkX hcellA (by rw [hhp, hT]; exact Nat.le_refl _) (msg := .ref sa) rfl
    (g := { method := m, pc := pc + 6, locals := ls, stack := .ref sa :: .ref T.heap.size :: .ref T.heap.size :: st, locked := none }) rfl (hl.1.trans hml.symm) rfl rfl (rest := st) rfl
    (by rw [hb]; exact d6) (by rw [hb]; exact d9) (fun x hx => (hht x hx).elim) hR.1 (by have := hR.2; simp only [List.map_cons, List.sum_cons, hcat1]; show 2 * 0 + _ + _ ≤ _; omega) hlocks
  obtain ⟨f1, f2⟩ := vx_frame hsame
  rw [hhp] at f1 f2
  have hWs : s.WarmedH U.vm := State.WarmedH.trans hW0 hW
  have hcl : s.vm.findClass nse_X = some ce.cls := by rw [hcc, ← hvm]; exact hfX
  have hall : s.sameButNew ({ U with vm := s.vm } : State) locs mc ms := by
    subst hA
    obtain ⟨e1, e2⟩ := hsame
    rw [State.setFrames_setFrames] at e1
    have h9 : (T.setVm s.vm).sameButNew ({ U with vm := s.vm } : State) [] (0 + 1) (0 + 6) := ⟨e1, e2⟩
    have h8 := X.same.trans h9
    rw [List.append_nil] at h8
    exact h8.mono h3 h4
  have d3' : decode c.code (pc + 3) = .ok (.dup, 1) := by rw [hb]; exact d3
  have d4' : decode c.code (pc + 4) = .ok (.ldc is, 2) := by rw [hb]; exact d4
  have hsa' : vk_R RX8 is tx sa s' := vk_R.warm hW0 hsa
  refine ⟨U, ?_, .threw T.heap.size, hrun, hend, Or.inr ⟨T.heap.size, rfl, nse_X, ce, locs, ⟨(), trivial, ⟨hes, hPw.kept (fun j q hj => f2 q.1 ((hPw j q hj).lt) (fun z hz => nomatch hz))⟩, ?_⟩, hce, hcv, hcl, hWs, hall, hS.2.2⟩⟩
  · refine st1 _ ?_
    show Steps p.tables e below (T1.setTop { method := m, pc := pc + 3, locals := ls, stack := .ref T.heap.size :: st, locked := none }) _
    jvm_step X₁.here [X₁.here.top, hexec, d3', Value.category]
    exact X₁.ldcString hexec (own := RX8) (text := tx) (index := is) (a := sa) hown' hsa'.1 hsa'.2
      (g := { method := m, pc := pc + 4, locals := ls, stack := .ref T.heap.size :: .ref T.heap.size :: st, locked := none }) rfl d4' _ hsteps
  · subst hAe
    refine ⟨Nat.le_trans hS.1 f1, fun q q1 q2 => ?_⟩
    rw [f2 q (Nat.lt_of_lt_of_le q1 hS.1) (fun z hz => nomatch hz)]
    exact hS.2.1 q q1 q2
end NSEg
theorem ml_RL_24 : Cond.methodLink RL 24 yX8_init ∈ T1 := (wdT 63 (by decide +kernel) (by decide +kernel))
theorem ml_RL_35 : Cond.methodLink RL 35 yX8_addRule ∈ T1 := (wdT 185 (by decide +kernel) (by decide +kernel))
theorem ml_RL_42 : Cond.methodLink RL 42 yX8_part ∈ T1 := (wdT 282 (by decide +kernel) (by decide +kernel))
theorem ml_RX8_78 : Cond.methodLink RX8 78 yX8_needWord ∈ T1 := (wdT 286 (by decide +kernel) (by decide +kernel))
theorem ml_RL_45 : Cond.methodLink RL 45 yX8_addPhrase ∈ T1 := (wdT 307 (by decide +kernel) (by decide +kernel))
theorem ml_RX8_93 : Cond.methodLink RX8 93 yX8_needCost ∈ T1 := (wdT 311 (by decide +kernel) (by decide +kernel))
theorem ml_RX8_100 : Cond.methodLink RX8 100 yX8_needRoomForEntry ∈ T1 := (wdT 317 (by decide +kernel) (by decide +kernel))
theorem ml_RX8_105 : Cond.methodLink RX8 105 yJ7_copyOf_59c91 ∈ T1 := (wdT 324 (by decide +kernel) (by decide +kernel))
theorem ml_RJ7_304 : Cond.methodLink RJ7 304 yJ9_min_7cf53 ∈ T1 := (wdT 334 (by decide +kernel) (by decide +kernel))
theorem ml_RX8_111 : Cond.methodLink RX8 111 yX3_init ∈ T1 := (wdT 340 (by decide +kernel) (by decide +kernel))
theorem ml_RX3_3 : Cond.methodLink RX3 3 yX2_init ∈ T1 := (wdT 343 (by decide +kernel) (by decide +kernel))
theorem ml_RX8_114 : Cond.methodLink RX8 114 yX8_keep ∈ T1 := (wdT 358 (by decide +kernel) (by decide +kernel))
theorem ml_RL_38 : Cond.methodLink RL 38 yX8_addSplit ∈ T1 := (wdT 362 (by decide +kernel) (by decide +kernel))
theorem ml_RX8_122 : Cond.methodLink RX8 122 yX6_init ∈ T1 := (wdT 369 (by decide +kernel) (by decide +kernel))
theorem ml_RX6_3 : Cond.methodLink RX6 3 yX2_init ∈ T1 := (wdT 372 (by decide +kernel) (by decide +kernel))
theorem ml_RL_57 : Cond.methodLink RL 57 yX8_takeOut ∈ T1 := (wdT 384 (by decide +kernel) (by decide +kernel))
theorem ml_RX8_125 : Cond.methodLink RX8 125 yX8_needEntry ∈ T1 := (wdT 388 (by decide +kernel) (by decide +kernel))
theorem ml_RX0_23 : Cond.methodLink RX0 23 yX0_intervalOf ∈ T1 := (wdT 412 (by decide +kernel) (by decide +kernel))
theorem ml_RX0_19 : Cond.methodLink RX0 19 yX0_hasRoom ∈ T1 := (wdT 416 (by decide +kernel) (by decide +kernel))
theorem ml_RL_51 : Cond.methodLink RL 51 yX8_say ∈ T1 := (wdT 424 (by decide +kernel) (by decide +kernel))
theorem ml_RL_48 : Cond.methodLink RL 48 yX8_clear ∈ T1 := (wdT 437 (by decide +kernel) (by decide +kernel))
theorem ml_RL_54 : Cond.methodLink RL 54 yX8_setBare ∈ T1 := (wdT 445 (by decide +kernel) (by decide +kernel))
theorem ml_RL_63 : Cond.methodLink RL 63 yX8_learn ∈ T1 := (wdT 449 (by decide +kernel) (by decide +kernel))
theorem ml_RX8_182 : Cond.methodLink RX8 182 yX8_needReader ∈ T1 := (wdT 453 (by decide +kernel) (by decide +kernel))
theorem ml_RX0_27 : Cond.methodLink RX0 27 yX0_has ∈ T1 := (wdT 466 (by decide +kernel) (by decide +kernel))
theorem ml_RL_66 : Cond.methodLink RL 66 yX8_review ∈ T1 := (wdT 467 (by decide +kernel) (by decide +kernel))
theorem ml_RX8_208 : Cond.methodLink RX8 208 yJ9_min_7cf53 ∈ T1 := (wdT 477 (by decide +kernel) (by decide +kernel))
theorem ml_RL_70 : Cond.methodLink RL 70 yX8_knows ∈ T1 := (wdT 478 (by decide +kernel) (by decide +kernel))
theorem ml_RL_74 : Cond.methodLink RL 74 yX8_due ∈ T1 := (wdT 482 (by decide +kernel) (by decide +kernel))
theorem ml_RL_77 : Cond.methodLink RL 77 yX8_nextDue ∈ T1 := (wdT 486 (by decide +kernel) (by decide +kernel))
theorem ml_RL_60 : Cond.methodLink RL 60 yX8_pass ∈ T1 := (wdT 494 (by decide +kernel) (by decide +kernel))
theorem ml_RL_25 : Cond.methodLink RL 25 yL_cell ∈ T1 := (wdT 499 (by decide +kernel) (by decide +kernel))
theorem ml_RL_31 : Cond.methodLink RL 31 yL_low ∈ T1 := (wdT 502 (by decide +kernel) (by decide +kernel))
theorem ml_RL_80 : Cond.methodLink RL 80 yL_isCover ∈ T1 := (wdT 506 (by decide +kernel) (by decide +kernel))
theorem ml_RL_8 : Cond.methodLink RL 8 yX8_glossAt ∈ T1 := (wdT 509 (by decide +kernel) (by decide +kernel))
theorem ml_RX8_167 : Cond.methodLink RX8 167 yX8_needPlace ∈ T1 := (wdT 513 (by decide +kernel) (by decide +kernel))
theorem ml_RX8_170 : Cond.methodLink RX8 170 yX8_chooseCover ∈ T1 := (wdT 522 (by decide +kernel) (by decide +kernel))
theorem ml_RX8_147 : Cond.methodLink RX8 147 yX8_findStandings ∈ T1 := (wdT 526 (by decide +kernel) (by decide +kernel))
theorem ml_RX3_15 : Cond.methodLink RX3 15 yX3_placesFrom ∈ T1 := (wdT 540 (by decide +kernel) (by decide +kernel))
theorem ml_RX5_19 : Cond.methodLink RX5 19 yX5_hasPlace ∈ T1 := (wdT 548 (by decide +kernel) (by decide +kernel))
theorem ml_RX6_27 : Cond.methodLink RX6 27 yX6_findFrom ∈ T1 := (wdT 561 (by decide +kernel) (by decide +kernel))
theorem ml_RX1_20 : Cond.methodLink RX1 20 yX1_leastFrom ∈ T1 := (wdT 570 (by decide +kernel) (by decide +kernel))
theorem ml_RX7_29 : Cond.methodLink RX7 29 yX7_placesOf ∈ T1 := (wdT 578 (by decide +kernel) (by decide +kernel))
theorem ml_RX7_25 : Cond.methodLink RX7 25 yX7_has ∈ T1 := (wdT 582 (by decide +kernel) (by decide +kernel))
theorem ml_RX7_33 : Cond.methodLink RX7 33 yJ6_numberOfTrailingZeros_0f7a4 ∈ T1 := (wdT 586 (by decide +kernel) (by decide +kernel))
theorem ml_RX1_34 : Cond.methodLink RX1 34 yX1_costWith ∈ T1 := (wdT 590 (by decide +kernel) (by decide +kernel))
theorem ml_RX1_38 : Cond.methodLink RX1 38 yJ9_min_7cf53 ∈ T1 := (wdT 599 (by decide +kernel) (by decide +kernel))
theorem ml_RX1_51 : Cond.methodLink RX1 51 yJ7_fill_53178 ∈ T1 := (wdT 604 (by decide +kernel) (by decide +kernel))
theorem ml_RX1_57 : Cond.methodLink RX1 57 yX1_bestFrom ∈ T1 := (wdT 607 (by decide +kernel) (by decide +kernel))
theorem ml_RX1_61 : Cond.methodLink RX1 61 yX1_mark ∈ T1 := (wdT 611 (by decide +kernel) (by decide +kernel))
theorem ml_RL_14 : Cond.methodLink RL 14 yX8_placesAt ∈ T1 := (wdT 623 (by decide +kernel) (by decide +kernel))
theorem ml_RL_17 : Cond.methodLink RL 17 yX8_cost ∈ T1 := (wdT 628 (by decide +kernel) (by decide +kernel))
theorem ml_RL_21 : Cond.methodLink RL 21 yX8_costByAll ∈ T1 := (wdT 636 (by decide +kernel) (by decide +kernel))
theorem ml_RX7_38 : Cond.methodLink RX7 38 yX7_priceOf ∈ T1 := (wdT 643 (by decide +kernel) (by decide +kernel))
theorem ml_RX7_41 : Cond.methodLink RX7 41 yJ6_bitCount_0f7a4 ∈ T1 := (wdT 644 (by decide +kernel) (by decide +kernel))
theorem ml_RX7_44 : Cond.methodLink RX7 44 yX7_leastOfAll ∈ T1 := (wdT 650 (by decide +kernel) (by decide +kernel))
theorem ml_RX7_48 : Cond.methodLink RX7 48 yJ9_min_7cf53 ∈ T1 := (wdT 651 (by decide +kernel) (by decide +kernel))
