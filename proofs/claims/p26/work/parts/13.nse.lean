/-! ===== NoSuchElementException: its constructor's link stands at 13 of its own pool; the library's chain holds 7 ===== -/
section NSEs
variable {p : Program} {l : Launch} {e : Env} {R : Room} {s : State} {m₀ : MethodId} {args : Array Value} {below : List Frame} {meth : Method} {c : Code} {W : State} {locs : List Loc} {cells slots : Nat}
def nse_X : String := "java/util/NoSuchElementException"
def nse_R : String := "java/lang/RuntimeException"
def nse_13 : ByteArray := ⟨#[0x2a, 0x2b, 0xb7, 0x00, 0x0d, 0xb1]⟩
theorem nse_t0 : decode nse_13 0 = .ok (.aload_n 0, 1) := by decide +kernel
theorem nse_t1 : decode nse_13 1 = .ok (.aload_n 1, 1) := by decide +kernel
theorem nse_t2 : decode nse_13 2 = .ok (.invokespecial 13, 3) := by decide +kernel
theorem nse_t5 : decode nse_13 5 = .ok (.return_, 1) := by decide +kernel
def nse_rest (own : String) (ic : Nat) : List Cond := [.methodLink own ic (Bundle.initS nse_X), .instantiable nse_X 6, .castable nse_X nse_X, .selects nse_X Bundle.tFill0 Bundle.tFill0, .selects nse_X Bundle.tFill Bundle.tFill,
   .lays nse_X Bundle.tN "cause" "Ljava/lang/Throwable;", .lays nse_X Bundle.tN "stackTrace" Bundle.steD, .lays nse_X Bundle.tN "suppressedExceptions" Bundle.listD, .lays nse_X Bundle.tN "detailMessage" "Ljava/lang/String;",
   .isRef (.static Bundle.tN "UNASSIGNED_STACK" Bundle.steD), .isRef (.static Bundle.tN "SUPPRESSED_SENTINEL" Bundle.listD),
   .fieldLink Bundle.tN 198 Bundle.tN "backtrace" "Ljava/lang/Object;", .lays Bundle.tN Bundle.tN "backtrace" "Ljava/lang/Object;", .lays nse_X Bundle.tN "backtrace" "Ljava/lang/Object;"]
def nse_at (own : String) (ic : Nat) : List Cond := Bundle.throwableAtoms ++ (Bundle.throwableSAtoms ++ (Bundle.passSAtoms nse_X nse_R 13 nse_13 ++ (Bundle.chainSAtoms nse_R ["java/lang/Exception"] ++ nse_rest own ic)))
set_option maxHeartbeats 4000000 in
theorem nse_thrown (X : Stand p l e R s m₀ args below meth c W locs cells slots) (hexec : p.tables.exec = Jvm.exec) (htr : e.platform.stackTraces = false) {own : String} {ic : Nat}
    (hown : s.vm.findClass own = some m₀.cls) (h : ∀ a ∈ nse_at own ic, a.before args s = true)
    (hlocs : ∀ x ∈ locs, ∀ cell, s.heap[x.base]? = some cell → cell.vm.isStatics = false)
    {a : Addr} {cX : ClassId} {kX : Class} (hfoundX : s.vm.findClass nse_X = some cX) (hkX : s.vm.classes[cX]? = some kX) (hcell : W.heap[a]? = some (freshCell cX kX)) (hnew : s.heap.size ≤ a)
    {msg : Value} (hmsg : msg.isRef = true)
    {g : JFrame} (hg : g.method = m₀) (hsize : g.locals.size = c.maxLocals) (hlocked : g.locked = none) (hentered : g.entered = []) {rest : List Value} (hstack : g.stack = msg :: .ref a :: .ref a :: rest)
    (hd6 : decode c.code g.pc = .ok (.invokespecial ic, 3)) (hd9 : decode c.code (g.pc + 3) = .ok (.athrow, 1)) (hout : ∀ x ∈ c.exceptionTable.toList, covers x (g.pc + 3) = false)
    (hRframes : 5 < R.frames) (hRlocals : 2 * g.monitorRoom + ((Value.ref a :: rest).map fun v => v.category).sum + (13 * 3 + 42) ≤ R.locals) (hlocks : meth.locks = false) :
    ∃ U : State, Steps p.tables e below (W.setTop g) U ∧ U.status = .running ∧ Ended U below (.threw a) ∧ s.WarmedH U.vm ∧ s.sameButNew ({ U with vm := s.vm } : State) locs cells slots ∧
      ∃ ce, U.heap[a]? = some ce ∧ ce.vm = .none ∧ ce.cls = cX := by
  have q (x : Cond) (hx : x ∈ nse_rest own ic) : x.holds args s none s [] = true := h x (by simp [nse_at, hx])
  have howns : e.platform.frameOwnsMonitors = true := by rw [X.admits.platform]
  have hfin : e.platform.finalization = false := by rw [X.admits.platform]
  have hpl : e.platform.magicAccessors = ({} : Platform).magicAccessors := by rw [X.admits.platform]
  obtain ⟨T, Z0, L, -, Y⟩ := ThrowableC.of_atoms (args := args) howns hfin hpl (fun x hx => h x (by simp [nse_at, hx]))
  obtain ⟨Z, M, LZ, LM, hnZ⟩ := Init0T.ofS_atoms (args := args) hpl L Y (fun x hx => h x (by simp [nse_at, hx]))
  obtain ⟨N, LN, hN1, hN2⟩ := PassC.ofS_atoms (args := args) (s := s) hpl (X := nse_X) (Y := nse_R) (by decide) (by decide) nse_t0 nse_t1 nse_t2 nse_t5 (fun x hx => h x (by simp [nse_at, hx]))
  obtain ⟨P1, Ps, hlen, L1, hL, hP1m, hlink1, hlink⟩ := Bundle.chainS (args := args) hpl hnZ ["java/lang/Exception"] nse_R (by decide) (by decide) (fun x hx => h x (by simp [nse_at, hx]))
  have hfound : s.vm.findClass nse_X = some N.m.cls := findClass_of_methodNamed hN1
  obtain rfl : cX = N.m.cls := Option.some.inj (hfoundX.symm.trans hfound)
  obtain ⟨c1, k1, hc1, hk, hord, -, -, hn6⟩ := Cond.instantiable_spec (q (.instantiable nse_X 6) (by simp [nse_rest]))
  obtain rfl : c1 = N.m.cls := Option.some.inj (hc1.symm.trans hfound)
  obtain rfl : kX = k1 := Option.some.inj (hkX.symm.trans hk)
  have sel (t : MethodName) (mt : MethodId) (ht : s.methodNamed? t = some mt) (hd : t.cls ≠ "java/lang/invoke/MethodHandle" ∧ t.cls ≠ "java/lang/invoke/VarHandle") (hw : Cond.selects nse_X t t ∈ nse_rest own ic) : selectMethod e.platform s.vm N.m.cls mt = .method mt := by
    obtain ⟨c2, r2, m2, q1, q2, q3, q4, -⟩ := Cond.selects_spec (q _ hw)
    obtain rfl := Option.some.inj (q1.symm.trans hfound)
    obtain rfl := Option.some.inj (q2.symm.trans (State.methodFound?_of_named ht hd))
    obtain rfl := Option.some.inj (q3.symm.trans ht)
    rw [Launch.admits_selectMethod X.admits]; exact q4
  have s0 := sel Bundle.tFill0 T.fill0 Y.fill0 (by decide) (by simp [nse_rest])
  have s1 := sel Bundle.tFill T.fill Y.fill (by decide) (by simp [nse_rest])
  obtain ⟨cellS0, hcS0, hiss⟩ := Y.statics
  obtain ⟨u0, hu0⟩ := Cond.staticRefV Y.unassigned L.unassignedStatic L.statics hcS0 hiss (q (.isRef (.static Bundle.tN "UNASSIGNED_STACK" Bundle.steD)) (by simp [nse_rest]))
  obtain ⟨sen, hsen⟩ := Cond.staticRefV Y.sentinel L.sentinelStatic L.statics hcS0 hiss (q (.isRef (.static Bundle.tN "SUPPRESSED_SENTINEL" Bundle.listD)) (by simp [nse_rest]))
  obtain ⟨ci198, i198, fB, hk198, hg198, ha198, hsB, -, hnB, htB, hffB⟩ := Cond.ownField (t := .object "java/lang/Object") Y.found L.cls (by decide +kernel) (q (.fieldLink Bundle.tN 198 Bundle.tN "backtrace" "Ljava/lang/Object;") (by simp [nse_rest])) (q (.lays Bundle.tN Bundle.tN "backtrace" "Ljava/lang/Object;") (by simp [nse_rest])) e.platform hpl
  obtain ⟨cellS, hcS', heS, -, hkeep⟩ := X.same.2.2.2.2.2 T.aS cellS0 hcS0
  have hcellS : W.heap[T.aS]? = some cellS := hcS'
  have hno : ∀ i, (⟨T.aS, i⟩ : Loc) ∉ locs := fun i hi => by
    have h2 := hlocs _ hi cellS0 hcS0
    rw [hiss] at h2; cases h2
  have hkn : cellS.vm ≠ .unknown := by
    rw [heS]; intro hu
    rw [show cellS0.vm = .unknown from hu] at hiss
    cases hiss
  have hne : T.aS ≠ a := Nat.ne_of_lt (Nat.lt_of_lt_of_le (Array.getElem?_eq_some_iff.mp hcS0).1 hnew)
  obtain ⟨iM, hffM⟩ := Y.msg
  obtain ⟨tyC, dC, hdC, hdnC⟩ := Cond.laysAt hfound hk Y.cause (q (.lays nse_X Bundle.tN "cause" "Ljava/lang/Throwable;") (by simp [nse_rest]))
  obtain ⟨tyS, dS, hdS, hdnS⟩ := Cond.laysAt hfound hk Y.stack (q (.lays nse_X Bundle.tN "stackTrace" Bundle.steD) (by simp [nse_rest]))
  obtain ⟨tyP, dP, hdP, hdnP⟩ := Cond.laysAt hfound hk Y.supp (q (.lays nse_X Bundle.tN "suppressedExceptions" Bundle.listD) (by simp [nse_rest]))
  obtain ⟨tyM, dM, hdM, hdnM⟩ := Cond.laysAt hfound hk hffM (q (.lays nse_X Bundle.tN "detailMessage" "Ljava/lang/String;") (by simp [nse_rest]))
  obtain ⟨tyB, dB, hdB, hdnB⟩ := Cond.laysAt hfound hk hffB (q (.lays nse_X Bundle.tN "backtrace" "Ljava/lang/Object;") (by simp [nse_rest]))
  have bC := Cond.laysApart hdB hdC hdnB hdnC (by rw [hnB, Y.causeName]; decide)
  have bS := Cond.laysApart hdB hdS hdnB hdnS (by rw [hnB, Y.stackName]; decide)
  have bP := Cond.laysApart hdB hdP hdnB hdnP (by rw [hnB, Y.suppName]; decide)
  have hskip : SkipFacts T e.platform s (fun u => u) u0 ((preparedCellV T.toThrowableT (freshCell N.m.cls kX) a u0 sen).withEntry W.cur) := by
    refine ⟨{ ci198 := ci198, i198 := i198, fBack := fB }, ⟨hk198, hg198, ha198, hsB⟩, ?_, fun _ _ => rfl⟩
    have h9 := fresh_default (c := N.m.cls) tyB
    rw [htB] at h9
    simpa [preparedCellV, Cell.setSlot, Cell.withEntry, Array.getElem?_setIfInBounds, bC, bS, bP, bC.symm, bS.symm, bP.symm, defaultValue] using h9
  obtain ⟨tm, -, -, -, vm₁, hnC, -, -, -, -, -, -, -, hW₁, st1⟩ := Steps.initColdS (tb := p.tables) (e := e) (below := below) (s := s) (U := W) X.here hexec X.warmed hpl hown (t := Bundle.initS nse_X) rfl rfl (by decide)
    (q (.methodLink own ic (Bundle.initS nse_X)) (by simp [nse_rest])) (h (.instanceMethod (Bundle.initS nse_X)) (by simp [nse_at, Bundle.passSAtoms])) (bytes := nse_13) (maxL := 2) (h (.code (Bundle.initS nse_X) nse_13 2 none) (by simp [nse_at, Bundle.passSAtoms])) (f := g) hg (a := a) (msg := msg) (rest := .ref a :: rest) hstack hd6
  obtain rfl : tm = N.m := Option.some.inj (hnC.symm.trans hN1)
  have X₁ := X.noted hW₁
  obtain ⟨vm₂, X₂, st2⟩ := X₁.ctorMessageOffV hexec (g := { g with stack := .ref a :: rest }) hg hsize T L Z LZ M LM (N :: P1 :: Ps)
    (fun P hP => by rcases List.mem_cons.mp hP with rfl | hP
                    · exact LN
                    · rcases List.mem_cons.mp hP with rfl | hP
                      · exact L1
                      · exact hL P hP)
    ⟨Option.some.inj (hN2.symm.trans hP1m), hlink1, hlink⟩ (u0 := u0) (sen := sen) (self := a) hmsg (cell := freshCell N.m.cls kX) (cellS := cellS)
    hcell (fun _ => by simp) (by simp) rfl rfl s0 s1 hcellS hne hkn (by rw [hkeep _ (hno _)]; exact hu0) (by rw [hkeep _ (hno _)]; exact hsen)
    (Takes.of_laid hk hord tyC (by rw [Y.causeType]; rfl)) (Takes.of_laid hk hord tyS (by rw [Y.stackType]; exact fits_refV_array _ u0)) (Takes.of_laid hk hord tyP (by rw [Y.suppType]; exact fits_refV_object _ sen))
    (Takes.of_laid hk hord tyM (by rw [Y.msgType]; exact fits_refV_object _ ⟨msg, hmsg⟩)) Y.objLocals hskip htr [] hd6
    (by simp only [List.length_cons, hlen]; show 1 + 1 + 1 + 2 < _; exact hRframes) (by simp only [List.length_cons, hlen]; exact hRlocals)
  obtain ⟨hwalk, hrun, hended, hWU, hsame⟩ := X₂.athrowLeaves hexec (g := { g with stack := .ref a :: rest, pc := g.pc + 3 }) hg hlocked hentered hout (a := a) (rest := rest) rfl hd9
  have hlt : a < ((W.setVm vm₁).setVm vm₂).heap.size := (Array.getElem?_eq_some_iff.mp hcell).1
  have hU := heapAt_setCell_self (s := (W.setVm vm₁).setVm vm₂) (plainBareV T.toThrowableT (freshCell N.m.cls kX) a u0 sen msg) hlt
  refine ⟨_, st1 _ (fun acts => ?_), hrun, hended, hWU, hsame.weaken (fun y hy hy2 => ?_) (Nat.le_refl _) (Nat.le_refl _), _, hU, rfl, rfl⟩
  · rw [doInvoke_state]
    exact st2 _ hwalk
  · rcases List.mem_append.mp hy with h1 | h1
    · exact h1
    · have hb : y.base = a := by
        simp only [List.mem_cons, List.not_mem_nil, or_false] at h1
        rcases h1 with rfl | rfl | rfl | rfl | rfl <;> rfl
      rw [hb] at hy2
      exact absurd hy2 (Nat.not_lt.mpr hnew)
end NSEs
