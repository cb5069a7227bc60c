/-! ===== the words that stay: every word of the tables that holds at any later state ===== -/
theorem ao_core {nm : String} {ty : FieldType} {u U : State} (hvm : u.vm.Alike U.vm) (h : ((u.vm.findClass nm).bind fun comp => (u.vm.classes.findIdx? fun (x : Class) => match x.kind with | .array component _ => component == comp | _ => false).bind fun c => (u.vm.classes[c]?).map fun (k : Class) => match k.kind with
      | .array _ t => decide (t = ty) && decide (u.vm.findClass ("[" ++ ty.toString) = some c)
      | _ => false) = some true) : ((U.vm.findClass nm).bind fun comp => (U.vm.classes.findIdx? fun (x : Class) => match x.kind with | .array component _ => component == comp | _ => false).bind fun c => (U.vm.classes[c]?).map fun (k : Class) => match k.kind with
      | .array _ t => decide (t = ty) && decide (U.vm.findClass ("[" ++ ty.toString) = some c)
      | _ => false) = some true := by
  simp only [Option.bind_eq_some_iff, Option.map_eq_some_iff] at h ⊢
  obtain ⟨comp, h1, c, h2, k, h3, h4⟩ := h
  obtain ⟨k', hk', he⟩ := hvm.2.2 _ _ h3
  refine ⟨comp, by rw [hvm.findClass]; exact h1, c, ?_, k', hk', ?_⟩
  · refine (va_idx_bare U.vm comp).symm.trans ?_
    first | rw [hvm.bare_eq] | rw [← hvm.bare_eq]
    exact (va_idx_bare u.vm comp).trans h2
  · have e : k'.kind = k.kind := by rw [he]
    rw [e, hvm.findClass]
    exact h4
theorem ao_moved {ty : FieldType} {u U : State} {a a' : Array Value} (hvm : u.vm.Alike U.vm) (h : (Cond.arrayOver ty).before a u = true) : (Cond.arrayOver ty).before a' U = true := by
  unfold Cond.before Cond.holds at h ⊢
  simp only [Cond.value, beq_iff_eq] at h ⊢
  cases ty with
  | object n => exact ao_core hvm h
  | array t => exact ao_core hvm h
  | _ => simp at h
def enX : Cond → Bool
  | .methodLinkNest .. | .fieldLinkNest .. | .declares _ | .castable .. | .arrayOver _ => true
  | _ => false
def enW (w : Cond) : Bool := goodWord w || enX w
theorem enW_warm {w : Cond} {s U : State} {a a' : Array Value} (h : enW w = true) (hW : s.WarmedH U.vm) (hb : w.before a s = true) : w.before a' U = true := by
  rcases (Bool.or_eq_true _ _).mp h with g | g
  · exact word_at hW (good_of_word g) hb
  · cases w <;> first
      | exact (Bool.false_ne_true g).elim
      | exact va_Nw.use rfl (va_Nw.warmM hW (va_Nw.of rfl hb))
      | exact va_Nw.use rfl (va_Nw.warmF hW (va_Nw.of rfl hb))
      | exact va_Nw.use rfl (va_Nw.warmD hW (va_Nw.of rfl hb))
      | exact va_Nw.use rfl (va_Nw.warmC hW (va_Nw.of rfl hb))
      | exact ao_moved hW.alike hb
def T1 : List Cond := lw_tbl.filter enW
theorem wdT {w : Cond} (k : Nat) (h : lw_tbl[k]? = some w) (he : enW w = true) : w ∈ T1 := List.mem_filter.mpr ⟨List.mem_of_getElem? h, he⟩
theorem wdL {ws : List Cond} (ps : List Nat) (hp : ws = ps.filterMap (fun i => lw_tbl[i]?)) (he : ws.all enW = true) : ∀ w ∈ ws, w ∈ T1 := by
  intro w hw
  have h1 := List.all_eq_true.mp he w hw
  rw [hp] at hw
  obtain ⟨i, -, hi⟩ := List.mem_filterMap.mp hw
  exact wdT i hi h1
def EN (U : State) : Prop := ∀ w ∈ T1, ∀ a : Array Value, w.before a U = true
theorem EN.warm {s U : State} (hW : s.WarmedH U.vm) (h : EN s) : EN U := fun w hw a => enW_warm (List.mem_filter.mp hw).2 hW (h w hw #[])
theorem EN.of {a : Array Value} {s : State} (h : ∀ w ∈ lw_tbl, w.before a s = true) : EN s := fun w hw _ => enW_warm (List.mem_filter.mp hw).2 (State.WarmedH.refl s) (h w (List.mem_filter.mp hw).1)
def ES (L : List (String × Nat × String)) (U : State) : Prop := ∀ q ∈ L, ∃ a : Nat, vk_R q.1 q.2.1 q.2.2 a U
theorem ES.warm {L : List (String × Nat × String)} {s U : State} (hW : s.WarmedH U.vm) (h : ES L s) : ES L U := fun q hq => (h q hq).elim fun a ha => ⟨a, vk_R.warm hW ha⟩
def NC (L : List (String × String)) (U : State) : Prop := ∀ q ∈ L, va_Nc q.1 q.2 U
theorem NC.warm {L : List (String × String)} {s U : State} (hW : s.WarmedH U.vm) (h : NC L s) : NC L U := fun q hq => (h q hq).moved hW.alike
abbrev KK : Type := va_G × (Nat → ClassId)
abbrev tysK (κ : KK) : List (ClassId × FieldType) := [(κ.2 0, .int), (κ.2 0, .int), (κ.2 2, .object RX2), (κ.2 3, .array .int), (κ.2 0, .int)]
def EV (κ : KK) (U : State) : Prop := va_K κ.1 vwCl (tysK κ) U ∧ EN U
theorem EV.warm {κ : KK} {s U : State} (hW : s.WarmedH U.vm) (h : EV κ s) : EV κ U := ⟨va_K.moved hW.alike h.1, h.2.warm hW⟩
/-! ===== a method's body: its fixed facts, and its goal with the world, the locals and the stack in sight ===== -/
def Cx (p : Program) (s : State) (m : MethodId) (meth : Method) (c : Code) (κ : KK) (own : String) (cc : ByteArray) (nL : Nat) (ret : Option FieldType) : Prop :=
  p.tables.exec = Jvm.exec ∧ c.code = cc ∧ c.maxLocals = nL ∧ meth.sig.returnType = ret ∧ meth.locks = false ∧ s.vm.findClass own = some m.cls ∧ EV κ s
abbrev JJ : Type := va_W → Heap → List Loc → Prop
def JP (s : State) : JJ := fun _ H locs => H = s.heap ∧ locs = []
def JM (A : Nat → Prop) (s : State) : JJ := fun ws H locs => va_D A ws ∧ va_S A s.heap H locs
def G (p : Program) (l : Launch) (e : Env) (R : Room) (s : State) (m : MethodId) (args : Array Value) (below : List Frame) (meth : Method) (c : Code) (κ : KK) (nL : Nat) (J : JJ) (ws : va_W) (k n : Nat) (Q : State → Prop) (pc : Nat) (lv : List (Nat × Value)) (st : List Value) : Prop :=
  ∀ (H : Heap) (locs : List Loc) (ls : Array Slot), va_P κ.1 vwCl ws H → J ws H locs → lv_has ls nL lv → W p l e R s m args below meth c H locs k n Q (F0 m pc ls st)
def b2i (b : Bool) : Int32 := if b then 1 else 0
theorem b2i_t : b2i true = 1 := rfl
theorem b2i_f : b2i false = 0 := rfl
theorem nIl (n : Nat) : nI n = Int32.ofNat n := rfl
section GR
variable {p : Program} {l : Launch} {e : Env} {R : Room} {s : State} {m : MethodId} {args : Array Value} {below : List Frame} {meth : Method} {c : Code} {κ : KK} {own : String} {cc : ByteArray} {nL : Nat} {ret : Option FieldType}
variable {J : JJ} {ws : va_W} {k n : Nat} {Q : State → Prop} {pc pc' : Nat} {lv : List (Nat × Value)} {st : List Value}
theorem g_iconst (C : Cx p s m meth c κ own cc nL ret) {i : Int} {v : Int32} (hd : decode cc pc = .ok (.iconst i, 1)) (hv : Int32.ofInt i = v) (hp : pc + 1 = pc') (K : G p l e R s m args below meth c κ nL J ws k n Q pc' lv (.int v :: st)) : G p l e R s m args below meth c κ nL J ws k n Q pc lv st := by
  subst hp; exact fun H locs ls hP hJ hl => lv_iconst C.1 C.2.1 hd hv (K H locs ls hP hJ hl)
theorem g_bipush (C : Cx p s m meth c κ own cc nL ret) {i : Int} {v : Int32} (hd : decode cc pc = .ok (.bipush i, 2)) (hv : (Int8.ofInt i).toInt32 = v) (hp : pc + 2 = pc') (K : G p l e R s m args below meth c κ nL J ws k n Q pc' lv (.int v :: st)) : G p l e R s m args below meth c κ nL J ws k n Q pc lv st := by
  subst hp; exact fun H locs ls hP hJ hl => lv_bipush C.1 C.2.1 hd hv (K H locs ls hP hJ hl)
theorem g_sipush (C : Cx p s m meth c κ own cc nL ret) {i : Int} {v : Int32} (hd : decode cc pc = .ok (.sipush i, 3)) (hv : (Int16.ofInt i).toInt32 = v) (hp : pc + 3 = pc') (K : G p l e R s m args below meth c κ nL J ws k n Q pc' lv (.int v :: st)) : G p l e R s m args below meth c κ nL J ws k n Q pc lv st := by
  subst hp; exact fun H locs ls hP hJ hl => lv_sipush C.1 C.2.1 hd hv (K H locs ls hP hJ hl)
theorem g_lconst (C : Cx p s m meth c κ own cc nL ret) {i : Fin 2} {v : Int64} (hd : decode cc pc = .ok (.lconst i, 1)) (hv : Int64.ofNat (i : Nat) = v) (hp : pc + 1 = pc') (K : G p l e R s m args below meth c κ nL J ws k n Q pc' lv (.long v :: st)) : G p l e R s m args below meth c κ nL J ws k n Q pc lv st := by
  subst hp; exact fun H locs ls hP hJ hl => lv_lconst C.1 C.2.1 hd hv (K H locs ls hP hJ hl)
theorem g_ldcw (C : Cx p s m meth c κ own cc nL ret) {i : Nat} {v : Int32} (hw : Cond.constant own i v ∈ T1) (hd : decode cc pc = .ok (.ldc_w i, 3)) (hp : pc + 3 = pc') (K : G p l e R s m args below meth c κ nL J ws k n Q pc' lv (.int v :: st)) : G p l e R s m args below meth c κ nL J ws k n Q pc lv st := by
  subst hp; exact fun H locs ls hP hJ hl => lv_ldcw C.1 C.2.1 C.2.2.2.2.2.1 (C.2.2.2.2.2.2.2 _ hw args) hd (K H locs ls hP hJ hl)
theorem g_iload_n (C : Cx p s m meth c κ own cc nL ret) (j : Nat) {f : Fin 4} {i : Nat} {x : Int32} (hd : decode cc pc = .ok (.iload_n f, 1)) (hi : (f : Nat) = i) (hl0 : lv[j]? = some (i, .int x)) (hp : pc + 1 = pc') (K : G p l e R s m args below meth c κ nL J ws k n Q pc' lv (.int x :: st)) : G p l e R s m args below meth c κ nL J ws k n Q pc lv st := by
  subst hp; exact fun H locs ls hP hJ hl => lv_iload_n C.1 C.2.1 hd hi (lv_at hl j hl0) (K H locs ls hP hJ hl)
theorem g_iload (C : Cx p s m meth c κ own cc nL ret) (j : Nat) {i : Nat} {x : Int32} (hd : decode cc pc = .ok (.iload i, 2)) (hl0 : lv[j]? = some (i, .int x)) (hp : pc + 2 = pc') (K : G p l e R s m args below meth c κ nL J ws k n Q pc' lv (.int x :: st)) : G p l e R s m args below meth c κ nL J ws k n Q pc lv st := by
  subst hp; exact fun H locs ls hP hJ hl => lv_iload C.1 C.2.1 hd (lv_at hl j hl0) (K H locs ls hP hJ hl)
theorem g_aload_n (C : Cx p s m meth c κ own cc nL ret) (j : Nat) {f : Fin 4} {i : Nat} {x : Nat} (hd : decode cc pc = .ok (.aload_n f, 1)) (hi : (f : Nat) = i) (hl0 : lv[j]? = some (i, .ref x)) (hp : pc + 1 = pc') (K : G p l e R s m args below meth c κ nL J ws k n Q pc' lv (.ref x :: st)) : G p l e R s m args below meth c κ nL J ws k n Q pc lv st := by
  subst hp; exact fun H locs ls hP hJ hl => lv_aload_n C.1 C.2.1 hd hi (lv_at hl j hl0) (K H locs ls hP hJ hl)
theorem g_aload (C : Cx p s m meth c κ own cc nL ret) (j : Nat) {i : Nat} {x : Nat} (hd : decode cc pc = .ok (.aload i, 2)) (hl0 : lv[j]? = some (i, .ref x)) (hp : pc + 2 = pc') (K : G p l e R s m args below meth c κ nL J ws k n Q pc' lv (.ref x :: st)) : G p l e R s m args below meth c κ nL J ws k n Q pc lv st := by
  subst hp; exact fun H locs ls hP hJ hl => lv_aload C.1 C.2.1 hd (lv_at hl j hl0) (K H locs ls hP hJ hl)
theorem g_aload_nN (C : Cx p s m meth c κ own cc nL ret) (j : Nat) {f : Fin 4} {i : Nat} (hd : decode cc pc = .ok (.aload_n f, 1)) (hi : (f : Nat) = i) (hl0 : lv[j]? = some (i, .null)) (hp : pc + 1 = pc') (K : G p l e R s m args below meth c κ nL J ws k n Q pc' lv (.null :: st)) : G p l e R s m args below meth c κ nL J ws k n Q pc lv st := by
  subst hp; exact fun H locs ls hP hJ hl => lv_aload_nN C.1 C.2.1 hd hi (lv_at hl j hl0) (K H locs ls hP hJ hl)
theorem g_aloadN (C : Cx p s m meth c κ own cc nL ret) (j : Nat) {i : Nat} (hd : decode cc pc = .ok (.aload i, 2)) (hl0 : lv[j]? = some (i, .null)) (hp : pc + 2 = pc') (K : G p l e R s m args below meth c κ nL J ws k n Q pc' lv (.null :: st)) : G p l e R s m args below meth c κ nL J ws k n Q pc lv st := by
  subst hp; exact fun H locs ls hP hJ hl => lv_aloadN C.1 C.2.1 hd (lv_at hl j hl0) (K H locs ls hP hJ hl)
theorem g_istore_n (C : Cx p s m meth c κ own cc nL ret) {f : Fin 4} {i : Nat} {x : Int32} {lv' : List (Nat × Value)} (hd : decode cc pc = .ok (.istore_n f, 1)) (hi : (f : Nat) = i) (hn : i < nL) (hl0 : (i, Value.int x) :: lv.filter (fun q => !(q.1 == i) && !(q.1 + 1 == i && q.2.category == 2)) = lv') (hp : pc + 1 = pc') (K : G p l e R s m args below meth c κ nL J ws k n Q pc' lv' st) : G p l e R s m args below meth c κ nL J ws k n Q pc lv (.int x :: st) := by
  subst hp; exact fun H locs ls hP hJ hl => lv_istore_n C.1 C.2.1 hd hi hl hn hl0 (fun ls hl => K H locs ls hP hJ hl)
theorem g_istore (C : Cx p s m meth c κ own cc nL ret) {i : Nat} {x : Int32} {lv' : List (Nat × Value)} (hd : decode cc pc = .ok (.istore i, 2)) (hn : i < nL) (hl0 : (i, Value.int x) :: lv.filter (fun q => !(q.1 == i) && !(q.1 + 1 == i && q.2.category == 2)) = lv') (hp : pc + 2 = pc') (K : G p l e R s m args below meth c κ nL J ws k n Q pc' lv' st) : G p l e R s m args below meth c κ nL J ws k n Q pc lv (.int x :: st) := by
  subst hp; exact fun H locs ls hP hJ hl => lv_istore C.1 C.2.1 hd hl hn hl0 (fun ls hl => K H locs ls hP hJ hl)
theorem g_astore_n (C : Cx p s m meth c κ own cc nL ret) {f : Fin 4} {i : Nat} {x : Nat} {lv' : List (Nat × Value)} (hd : decode cc pc = .ok (.astore_n f, 1)) (hi : (f : Nat) = i) (hn : i < nL) (hl0 : (i, Value.ref x) :: lv.filter (fun q => !(q.1 == i) && !(q.1 + 1 == i && q.2.category == 2)) = lv') (hp : pc + 1 = pc') (K : G p l e R s m args below meth c κ nL J ws k n Q pc' lv' st) : G p l e R s m args below meth c κ nL J ws k n Q pc lv (.ref x :: st) := by
  subst hp; exact fun H locs ls hP hJ hl => lv_astore_n C.1 C.2.1 hd hi hl hn hl0 (fun ls hl => K H locs ls hP hJ hl)
theorem g_astore (C : Cx p s m meth c κ own cc nL ret) {i : Nat} {x : Nat} {lv' : List (Nat × Value)} (hd : decode cc pc = .ok (.astore i, 2)) (hn : i < nL) (hl0 : (i, Value.ref x) :: lv.filter (fun q => !(q.1 == i) && !(q.1 + 1 == i && q.2.category == 2)) = lv') (hp : pc + 2 = pc') (K : G p l e R s m args below meth c κ nL J ws k n Q pc' lv' st) : G p l e R s m args below meth c κ nL J ws k n Q pc lv (.ref x :: st) := by
  subst hp; exact fun H locs ls hP hJ hl => lv_astore C.1 C.2.1 hd hl hn hl0 (fun ls hl => K H locs ls hP hJ hl)
theorem g_astore_nN (C : Cx p s m meth c κ own cc nL ret) {f : Fin 4} {i : Nat} {lv' : List (Nat × Value)} (hd : decode cc pc = .ok (.astore_n f, 1)) (hi : (f : Nat) = i) (hn : i < nL) (hl0 : (i, Value.null) :: lv.filter (fun q => !(q.1 == i) && !(q.1 + 1 == i && q.2.category == 2)) = lv') (hp : pc + 1 = pc') (K : G p l e R s m args below meth c κ nL J ws k n Q pc' lv' st) : G p l e R s m args below meth c κ nL J ws k n Q pc lv (.null :: st) := by
  subst hp; exact fun H locs ls hP hJ hl => lv_astore_nN C.1 C.2.1 hd hi hl hn hl0 (fun ls hl => K H locs ls hP hJ hl)
theorem g_astoreN (C : Cx p s m meth c κ own cc nL ret) {i : Nat} {lv' : List (Nat × Value)} (hd : decode cc pc = .ok (.astore i, 2)) (hn : i < nL) (hl0 : (i, Value.null) :: lv.filter (fun q => !(q.1 == i) && !(q.1 + 1 == i && q.2.category == 2)) = lv') (hp : pc + 2 = pc') (K : G p l e R s m args below meth c κ nL J ws k n Q pc' lv' st) : G p l e R s m args below meth c κ nL J ws k n Q pc lv (.null :: st) := by
  subst hp; exact fun H locs ls hP hJ hl => lv_astoreN C.1 C.2.1 hd hl hn hl0 (fun ls hl => K H locs ls hP hJ hl)
theorem g_iinc (C : Cx p s m meth c κ own cc nL ret) (j : Nat) {i : Nat} {d : Int} {x v : Int32} {lv' : List (Nat × Value)} (hd : decode cc pc = .ok (.iinc i d, 3)) (hk : lv[j]? = some (i, .int x)) (hv : x + Int32.ofInt d = v) (hn : i < nL) (hl0 : (i, Value.int v) :: lv.filter (fun q => !(q.1 == i) && !(q.1 + 1 == i && q.2.category == 2)) = lv') (hp : pc + 3 = pc') (K : G p l e R s m args below meth c κ nL J ws k n Q pc' lv' st) : G p l e R s m args below meth c κ nL J ws k n Q pc lv st := by
  subst hp; exact fun H locs ls hP hJ hl => lv_iinc C.1 C.2.1 hd hl hk hv hn hl0 (fun ls hl => K H locs ls hP hJ hl)
theorem g_iadd (C : Cx p s m meth c κ own cc nL ret) {x y v : Int32} (hd : decode cc pc = .ok (.iadd, 1)) (hv : x + y = v) (hp : pc + 1 = pc') (K : G p l e R s m args below meth c κ nL J ws k n Q pc' lv (.int v :: st)) : G p l e R s m args below meth c κ nL J ws k n Q pc lv (.int y :: .int x :: st) := by
  subst hp; subst hv; exact fun H locs ls hP hJ hl => lv_iadd C.1 C.2.1 hd (K H locs ls hP hJ hl)
theorem g_isub (C : Cx p s m meth c κ own cc nL ret) {x y v : Int32} (hd : decode cc pc = .ok (.isub, 1)) (hv : x - y = v) (hp : pc + 1 = pc') (K : G p l e R s m args below meth c κ nL J ws k n Q pc' lv (.int v :: st)) : G p l e R s m args below meth c κ nL J ws k n Q pc lv (.int y :: .int x :: st) := by
  subst hp; subst hv; exact fun H locs ls hP hJ hl => lv_isub C.1 C.2.1 hd (K H locs ls hP hJ hl)
theorem g_imul (C : Cx p s m meth c κ own cc nL ret) {x y v : Int32} (hd : decode cc pc = .ok (.imul, 1)) (hv : x * y = v) (hp : pc + 1 = pc') (K : G p l e R s m args below meth c κ nL J ws k n Q pc' lv (.int v :: st)) : G p l e R s m args below meth c κ nL J ws k n Q pc lv (.int y :: .int x :: st) := by
  subst hp; subst hv; exact fun H locs ls hP hJ hl => lv_imul C.1 C.2.1 hd (K H locs ls hP hJ hl)
theorem g_iand (C : Cx p s m meth c κ own cc nL ret) {x y v : Int32} (hd : decode cc pc = .ok (.iand, 1)) (hv : x &&& y = v) (hp : pc + 1 = pc') (K : G p l e R s m args below meth c κ nL J ws k n Q pc' lv (.int v :: st)) : G p l e R s m args below meth c κ nL J ws k n Q pc lv (.int y :: .int x :: st) := by
  subst hp; subst hv; exact fun H locs ls hP hJ hl => lv_iand C.1 C.2.1 hd (K H locs ls hP hJ hl)
theorem g_ior (C : Cx p s m meth c κ own cc nL ret) {x y v : Int32} (hd : decode cc pc = .ok (.ior, 1)) (hv : x ||| y = v) (hp : pc + 1 = pc') (K : G p l e R s m args below meth c κ nL J ws k n Q pc' lv (.int v :: st)) : G p l e R s m args below meth c κ nL J ws k n Q pc lv (.int y :: .int x :: st) := by
  subst hp; subst hv; exact fun H locs ls hP hJ hl => lv_ior C.1 C.2.1 hd (K H locs ls hP hJ hl)
theorem g_ixor (C : Cx p s m meth c κ own cc nL ret) {x y v : Int32} (hd : decode cc pc = .ok (.ixor, 1)) (hv : x ^^^ y = v) (hp : pc + 1 = pc') (K : G p l e R s m args below meth c κ nL J ws k n Q pc' lv (.int v :: st)) : G p l e R s m args below meth c κ nL J ws k n Q pc lv (.int y :: .int x :: st) := by
  subst hp; subst hv; exact fun H locs ls hP hJ hl => lv_ixor C.1 C.2.1 hd (K H locs ls hP hJ hl)
theorem g_irem (C : Cx p s m meth c κ own cc nL ret) {x y v : Int32} (hd : decode cc pc = .ok (.irem, 1)) (hne : ¬ y = 0) (hv : x - x / y * y = v) (hp : pc + 1 = pc') (K : G p l e R s m args below meth c κ nL J ws k n Q pc' lv (.int v :: st)) : G p l e R s m args below meth c κ nL J ws k n Q pc lv (.int y :: .int x :: st) := by
  subst hp; subst hv; exact fun H locs ls hP hJ hl => lv_irem C.1 C.2.1 hd hne (K H locs ls hP hJ hl)
theorem g_ishl (C : Cx p s m meth c κ own cc nL ret) {x y v : Int32} (hd : decode cc pc = .ok (.ishl, 1)) (hv : x <<< (y &&& 31) = v) (hp : pc + 1 = pc') (K : G p l e R s m args below meth c κ nL J ws k n Q pc' lv (.int v :: st)) : G p l e R s m args below meth c κ nL J ws k n Q pc lv (.int y :: .int x :: st) := by
  subst hp; subst hv; exact fun H locs ls hP hJ hl => lv_ishl C.1 C.2.1 hd (K H locs ls hP hJ hl)
theorem g_ishr (C : Cx p s m meth c κ own cc nL ret) {x y v : Int32} (hd : decode cc pc = .ok (.ishr, 1)) (hv : x >>> (y &&& 31) = v) (hp : pc + 1 = pc') (K : G p l e R s m args below meth c κ nL J ws k n Q pc' lv (.int v :: st)) : G p l e R s m args below meth c κ nL J ws k n Q pc lv (.int y :: .int x :: st) := by
  subst hp; subst hv; exact fun H locs ls hP hJ hl => lv_ishr C.1 C.2.1 hd (K H locs ls hP hJ hl)
theorem g_iushr (C : Cx p s m meth c κ own cc nL ret) {x y v : Int32} (hd : decode cc pc = .ok (.iushr, 1)) (hv : (x.toUInt32 >>> (y.toUInt32 &&& Int32.toUInt32 31)).toInt32 = v) (hp : pc + 1 = pc') (K : G p l e R s m args below meth c κ nL J ws k n Q pc' lv (.int v :: st)) : G p l e R s m args below meth c κ nL J ws k n Q pc lv (.int y :: .int x :: st) := by
  subst hp; exact fun H locs ls hP hJ hl => lv_iushr C.1 C.2.1 hd hv (K H locs ls hP hJ hl)
theorem g_i2l (C : Cx p s m meth c κ own cc nL ret) {x : Int32} {v : Int64} (hd : decode cc pc = .ok (.i2l, 1)) (hv : x.toInt64 = v) (hp : pc + 1 = pc') (K : G p l e R s m args below meth c κ nL J ws k n Q pc' lv (.long v :: st)) : G p l e R s m args below meth c κ nL J ws k n Q pc lv (.int x :: st) := by
  subst hp; exact fun H locs ls hP hJ hl => lv_i2l C.1 C.2.1 hd hv (K H locs ls hP hJ hl)
theorem g_lcmp (C : Cx p s m meth c κ own cc nL ret) {x y : Int64} (hd : decode cc pc = .ok (.lcmp, 1)) (hp : pc + 1 = pc') (K : G p l e R s m args below meth c κ nL J ws k n Q pc' lv (.int (lg_cmp x y) :: st)) : G p l e R s m args below meth c κ nL J ws k n Q pc lv (.long y :: .long x :: st) := by
  subst hp; exact fun H locs ls hP hJ hl => W.lcmp C.1 C.2.1 hd (K H locs ls hP hJ hl)
theorem g_dup (C : Cx p s m meth c κ own cc nL ret) {v : Value} (hd : decode cc pc = .ok (.dup, 1)) (hc : v.category = 1) (hp : pc + 1 = pc') (K : G p l e R s m args below meth c κ nL J ws k n Q pc' lv (v :: v :: st)) : G p l e R s m args below meth c κ nL J ws k n Q pc lv (v :: st) := by
  subst hp; exact fun H locs ls hP hJ hl => lv_dup C.1 C.2.1 hd hc (K H locs ls hP hJ hl)
theorem g_pop (C : Cx p s m meth c κ own cc nL ret) {v : Value} (hd : decode cc pc = .ok (.pop, 1)) (hc : v.category = 1) (hp : pc + 1 = pc') (K : G p l e R s m args below meth c κ nL J ws k n Q pc' lv st) : G p l e R s m args below meth c κ nL J ws k n Q pc lv (v :: st) := by
  subst hp; exact fun H locs ls hP hJ hl => lv_pop C.1 C.2.1 hd hc (K H locs ls hP hJ hl)
theorem g_goto (C : Cx p s m meth c κ own cc nL ret) {off : Int} {tgt : Nat} (hd : decode cc pc = .ok (.goto off, 3)) (ht : (pc : Int) + off = (tgt : Int)) (K : G p l e R s m args below meth c κ nL J ws k n Q tgt lv st) : G p l e R s m args below meth c κ nL J ws k n Q pc lv st := fun H locs ls hP hJ hl => lv_goto C.1 C.2.1 hd ht (K H locs ls hP hJ hl)
theorem g_null (C : Cx p s m meth c κ own cc nL ret) (hd : decode cc pc = .ok (.aconst_null, 1)) (hp : pc + 1 = pc') (K : G p l e R s m args below meth c κ nL J ws k n Q pc' lv (.null :: st)) : G p l e R s m args below meth c κ nL J ws k n Q pc lv st := by
  subst hp; exact fun H locs ls hP hJ hl => lv_null C.1 C.2.1 hd (K H locs ls hP hJ hl)
theorem g_ifnonnull (C : Cx p s m meth c κ own cc nL ret) {x : Nat} {off : Int} {tgt : Nat} (hd : decode cc pc = .ok (.ifnonnull off, 3)) (ht : (pc : Int) + off = (tgt : Int)) (K : G p l e R s m args below meth c κ nL J ws k n Q tgt lv st) : G p l e R s m args below meth c κ nL J ws k n Q pc lv (.ref x :: st) := fun H locs ls hP hJ hl => lv_ifnonnull C.1 C.2.1 hd ht (K H locs ls hP hJ hl)
theorem g_ifnonnullN (C : Cx p s m meth c κ own cc nL ret) {off : Int} (hd : decode cc pc = .ok (.ifnonnull off, 3)) (hp : pc + 3 = pc') (K : G p l e R s m args below meth c κ nL J ws k n Q pc' lv st) : G p l e R s m args below meth c κ nL J ws k n Q pc lv (.null :: st) := by
  subst hp; exact fun H locs ls hP hJ hl => lv_ifnonnullN C.1 C.2.1 hd (K H locs ls hP hJ hl)
theorem g_ifnull (C : Cx p s m meth c κ own cc nL ret) {x : Nat} {off : Int} (hd : decode cc pc = .ok (.ifnull off, 3)) (hp : pc + 3 = pc') (K : G p l e R s m args below meth c κ nL J ws k n Q pc' lv st) : G p l e R s m args below meth c κ nL J ws k n Q pc lv (.ref x :: st) := by
  subst hp; exact fun H locs ls hP hJ hl => lv_ifnull C.1 C.2.1 hd (K H locs ls hP hJ hl)
theorem g_ifnullN (C : Cx p s m meth c κ own cc nL ret) {off : Int} {tgt : Nat} (hd : decode cc pc = .ok (.ifnull off, 3)) (ht : (pc : Int) + off = (tgt : Int)) (K : G p l e R s m args below meth c κ nL J ws k n Q tgt lv st) : G p l e R s m args below meth c κ nL J ws k n Q pc lv (.null :: st) := fun H locs ls hP hJ hl => lv_ifnullN C.1 C.2.1 hd ht (K H locs ls hP hJ hl)
theorem g_widen {k' n' : Nat} (h1 : k ≤ k') (h2 : n ≤ n') (K : G p l e R s m args below meth c κ nL J ws k' n' Q pc lv st) : G p l e R s m args below meth c κ nL J ws k n Q pc lv st := fun H locs ls hP hJ hl => W.widen h1 h2 (K H locs ls hP hJ hl)
theorem g_lv (ks : List Nat) {lv' : List (Nat × Value)} (h : lv_pick lv ks = lv') (K : G p l e R s m args below meth c κ nL J ws k n Q pc lv' st) : G p l e R s m args below meth c κ nL J ws k n Q pc lv st := fun H locs ls hP hJ hl => K H locs ls hP hJ (lv_sub hl ks h)
theorem g_selM {A : Nat → Prop} (is : List Nat) {ws' : va_W} (hn : va_nd is = true) (h : is.map (fun i => ws[i]?) = ws'.map some) (K : G p l e R s m args below meth c κ nL (JM A s) ws' k n Q pc lv st) : G p l e R s m args below meth c κ nL (JM A s) ws k n Q pc lv st := by
  intro H locs ls hP hJ hl
  refine K H locs ls (hP.sub is ?_) ⟨hJ.1.sub is hn h, hJ.2⟩ hl
  have h2 := congrArg (List.filterMap id) h
  rw [List.filterMap_map, List.filterMap_map] at h2
  simpa using h2
theorem g_if_eq (C : Cx p s m meth c κ own cc nL ret) {x : Int32} {off : Int} {tgt : Nat} (hd : decode cc pc = .ok (.ifCond .eq off, 3)) (ht : (pc : Int) + off = (tgt : Int)) (hp : pc + 3 = pc') (kt : x = 0 → G p l e R s m args below meth c κ nL J ws k n Q tgt lv st) (kf : ¬ x = 0 → G p l e R s m args below meth c κ nL J ws k n Q pc' lv st) : G p l e R s m args below meth c κ nL J ws k n Q pc lv (.int x :: st) := by
  subst hp; exact fun H locs ls hP hJ hl => lv_if_eq C.1 C.2.1 hd ht (fun z => kt z H locs ls hP hJ hl) (fun z => kf z H locs ls hP hJ hl)
theorem g_icmp_eq (C : Cx p s m meth c κ own cc nL ret) {x y : Int32} {off : Int} {tgt : Nat} (hd : decode cc pc = .ok (.if_icmp .eq off, 3)) (ht : (pc : Int) + off = (tgt : Int)) (hp : pc + 3 = pc') (kt : x = y → G p l e R s m args below meth c κ nL J ws k n Q tgt lv st) (kf : ¬ x = y → G p l e R s m args below meth c κ nL J ws k n Q pc' lv st) : G p l e R s m args below meth c κ nL J ws k n Q pc lv (.int y :: .int x :: st) := by
  subst hp; exact fun H locs ls hP hJ hl => lv_icmp_eq C.1 C.2.1 hd ht (fun z => kt z H locs ls hP hJ hl) (fun z => kf z H locs ls hP hJ hl)
theorem g_if_ne (C : Cx p s m meth c κ own cc nL ret) {x : Int32} {off : Int} {tgt : Nat} (hd : decode cc pc = .ok (.ifCond .ne off, 3)) (ht : (pc : Int) + off = (tgt : Int)) (hp : pc + 3 = pc') (kt : ¬ x = 0 → G p l e R s m args below meth c κ nL J ws k n Q tgt lv st) (kf : x = 0 → G p l e R s m args below meth c κ nL J ws k n Q pc' lv st) : G p l e R s m args below meth c κ nL J ws k n Q pc lv (.int x :: st) := by
  subst hp; exact fun H locs ls hP hJ hl => lv_if_ne C.1 C.2.1 hd ht (fun z => kt z H locs ls hP hJ hl) (fun z => kf z H locs ls hP hJ hl)
theorem g_icmp_ne (C : Cx p s m meth c κ own cc nL ret) {x y : Int32} {off : Int} {tgt : Nat} (hd : decode cc pc = .ok (.if_icmp .ne off, 3)) (ht : (pc : Int) + off = (tgt : Int)) (hp : pc + 3 = pc') (kt : ¬ x = y → G p l e R s m args below meth c κ nL J ws k n Q tgt lv st) (kf : x = y → G p l e R s m args below meth c κ nL J ws k n Q pc' lv st) : G p l e R s m args below meth c κ nL J ws k n Q pc lv (.int y :: .int x :: st) := by
  subst hp; exact fun H locs ls hP hJ hl => lv_icmp_ne C.1 C.2.1 hd ht (fun z => kt z H locs ls hP hJ hl) (fun z => kf z H locs ls hP hJ hl)
theorem g_if_lt (C : Cx p s m meth c κ own cc nL ret) {x : Int32} {off : Int} {tgt : Nat} (hd : decode cc pc = .ok (.ifCond .lt off, 3)) (ht : (pc : Int) + off = (tgt : Int)) (hp : pc + 3 = pc') (kt : x < 0 → G p l e R s m args below meth c κ nL J ws k n Q tgt lv st) (kf : ¬ x < 0 → G p l e R s m args below meth c κ nL J ws k n Q pc' lv st) : G p l e R s m args below meth c κ nL J ws k n Q pc lv (.int x :: st) := by
  subst hp; exact fun H locs ls hP hJ hl => lv_if_lt C.1 C.2.1 hd ht (fun z => kt z H locs ls hP hJ hl) (fun z => kf z H locs ls hP hJ hl)
theorem g_icmp_lt (C : Cx p s m meth c κ own cc nL ret) {x y : Int32} {off : Int} {tgt : Nat} (hd : decode cc pc = .ok (.if_icmp .lt off, 3)) (ht : (pc : Int) + off = (tgt : Int)) (hp : pc + 3 = pc') (kt : x < y → G p l e R s m args below meth c κ nL J ws k n Q tgt lv st) (kf : ¬ x < y → G p l e R s m args below meth c κ nL J ws k n Q pc' lv st) : G p l e R s m args below meth c κ nL J ws k n Q pc lv (.int y :: .int x :: st) := by
  subst hp; exact fun H locs ls hP hJ hl => lv_icmp_lt C.1 C.2.1 hd ht (fun z => kt z H locs ls hP hJ hl) (fun z => kf z H locs ls hP hJ hl)
theorem g_if_ge (C : Cx p s m meth c κ own cc nL ret) {x : Int32} {off : Int} {tgt : Nat} (hd : decode cc pc = .ok (.ifCond .ge off, 3)) (ht : (pc : Int) + off = (tgt : Int)) (hp : pc + 3 = pc') (kt : 0 ≤ x → G p l e R s m args below meth c κ nL J ws k n Q tgt lv st) (kf : ¬ 0 ≤ x → G p l e R s m args below meth c κ nL J ws k n Q pc' lv st) : G p l e R s m args below meth c κ nL J ws k n Q pc lv (.int x :: st) := by
  subst hp; exact fun H locs ls hP hJ hl => lv_if_ge C.1 C.2.1 hd ht (fun z => kt z H locs ls hP hJ hl) (fun z => kf z H locs ls hP hJ hl)
theorem g_icmp_ge (C : Cx p s m meth c κ own cc nL ret) {x y : Int32} {off : Int} {tgt : Nat} (hd : decode cc pc = .ok (.if_icmp .ge off, 3)) (ht : (pc : Int) + off = (tgt : Int)) (hp : pc + 3 = pc') (kt : y ≤ x → G p l e R s m args below meth c κ nL J ws k n Q tgt lv st) (kf : ¬ y ≤ x → G p l e R s m args below meth c κ nL J ws k n Q pc' lv st) : G p l e R s m args below meth c κ nL J ws k n Q pc lv (.int y :: .int x :: st) := by
  subst hp; exact fun H locs ls hP hJ hl => lv_icmp_ge C.1 C.2.1 hd ht (fun z => kt z H locs ls hP hJ hl) (fun z => kf z H locs ls hP hJ hl)
theorem g_if_gt (C : Cx p s m meth c κ own cc nL ret) {x : Int32} {off : Int} {tgt : Nat} (hd : decode cc pc = .ok (.ifCond .gt off, 3)) (ht : (pc : Int) + off = (tgt : Int)) (hp : pc + 3 = pc') (kt : 0 < x → G p l e R s m args below meth c κ nL J ws k n Q tgt lv st) (kf : ¬ 0 < x → G p l e R s m args below meth c κ nL J ws k n Q pc' lv st) : G p l e R s m args below meth c κ nL J ws k n Q pc lv (.int x :: st) := by
  subst hp; exact fun H locs ls hP hJ hl => lv_if_gt C.1 C.2.1 hd ht (fun z => kt z H locs ls hP hJ hl) (fun z => kf z H locs ls hP hJ hl)
theorem g_icmp_gt (C : Cx p s m meth c κ own cc nL ret) {x y : Int32} {off : Int} {tgt : Nat} (hd : decode cc pc = .ok (.if_icmp .gt off, 3)) (ht : (pc : Int) + off = (tgt : Int)) (hp : pc + 3 = pc') (kt : y < x → G p l e R s m args below meth c κ nL J ws k n Q tgt lv st) (kf : ¬ y < x → G p l e R s m args below meth c κ nL J ws k n Q pc' lv st) : G p l e R s m args below meth c κ nL J ws k n Q pc lv (.int y :: .int x :: st) := by
  subst hp; exact fun H locs ls hP hJ hl => lv_icmp_gt C.1 C.2.1 hd ht (fun z => kt z H locs ls hP hJ hl) (fun z => kf z H locs ls hP hJ hl)
theorem g_if_le (C : Cx p s m meth c κ own cc nL ret) {x : Int32} {off : Int} {tgt : Nat} (hd : decode cc pc = .ok (.ifCond .le off, 3)) (ht : (pc : Int) + off = (tgt : Int)) (hp : pc + 3 = pc') (kt : x ≤ 0 → G p l e R s m args below meth c κ nL J ws k n Q tgt lv st) (kf : ¬ x ≤ 0 → G p l e R s m args below meth c κ nL J ws k n Q pc' lv st) : G p l e R s m args below meth c κ nL J ws k n Q pc lv (.int x :: st) := by
  subst hp; exact fun H locs ls hP hJ hl => lv_if_le C.1 C.2.1 hd ht (fun z => kt z H locs ls hP hJ hl) (fun z => kf z H locs ls hP hJ hl)
theorem g_icmp_le (C : Cx p s m meth c κ own cc nL ret) {x y : Int32} {off : Int} {tgt : Nat} (hd : decode cc pc = .ok (.if_icmp .le off, 3)) (ht : (pc : Int) + off = (tgt : Int)) (hp : pc + 3 = pc') (kt : x ≤ y → G p l e R s m args below meth c κ nL J ws k n Q tgt lv st) (kf : ¬ x ≤ y → G p l e R s m args below meth c κ nL J ws k n Q pc' lv st) : G p l e R s m args below meth c κ nL J ws k n Q pc lv (.int y :: .int x :: st) := by
  subst hp; exact fun H locs ls hP hJ hl => lv_icmp_le C.1 C.2.1 hd ht (fun z => kt z H locs ls hP hJ hl) (fun z => kf z H locs ls hP hJ hl)
theorem g_icmp_eqN (C : Cx p s m meth c κ own cc nL ret) {a b : Nat} (ha : a < 2 ^ 31) (hb : b < 2 ^ 31) {off : Int} {tgt : Nat} (hd : decode cc pc = .ok (.if_icmp .eq off, 3)) (ht : (pc : Int) + off = (tgt : Int)) (hp : pc + 3 = pc') (kt : a = b → G p l e R s m args below meth c κ nL J ws k n Q tgt lv st) (kf : a ≠ b → G p l e R s m args below meth c κ nL J ws k n Q pc' lv st) : G p l e R s m args below meth c κ nL J ws k n Q pc lv (.int (nI b) :: .int (nI a) :: st) :=
  g_icmp_eq C hd ht hp (fun z => kt ((nI_eq ha hb).mp z)) (fun z => kf (fun q => z ((nI_eq ha hb).mpr q)))
theorem g_if_eqN (C : Cx p s m meth c κ own cc nL ret) {a : Nat} (ha : a < 2 ^ 31) {off : Int} {tgt : Nat} (hd : decode cc pc = .ok (.ifCond .eq off, 3)) (ht : (pc : Int) + off = (tgt : Int)) (hp : pc + 3 = pc') (kt : a = 0 → G p l e R s m args below meth c κ nL J ws k n Q tgt lv st) (kf : a ≠ 0 → G p l e R s m args below meth c κ nL J ws k n Q pc' lv st) : G p l e R s m args below meth c κ nL J ws k n Q pc lv (.int (nI a) :: st) := by
  have hb : (0 : Nat) < 2 ^ 31 := by decide
  exact g_if_eq C hd ht hp (fun z => kt ((nI_eq ha hb).mp z)) (fun z => kf (fun q => z ((nI_eq ha hb).mpr q)))
theorem g_icmp_neN (C : Cx p s m meth c κ own cc nL ret) {a b : Nat} (ha : a < 2 ^ 31) (hb : b < 2 ^ 31) {off : Int} {tgt : Nat} (hd : decode cc pc = .ok (.if_icmp .ne off, 3)) (ht : (pc : Int) + off = (tgt : Int)) (hp : pc + 3 = pc') (kt : a ≠ b → G p l e R s m args below meth c κ nL J ws k n Q tgt lv st) (kf : a = b → G p l e R s m args below meth c κ nL J ws k n Q pc' lv st) : G p l e R s m args below meth c κ nL J ws k n Q pc lv (.int (nI b) :: .int (nI a) :: st) :=
  g_icmp_ne C hd ht hp (fun z => kt (fun q => z ((nI_eq ha hb).mpr q))) (fun z => kf ((nI_eq ha hb).mp z))
theorem g_if_neN (C : Cx p s m meth c κ own cc nL ret) {a : Nat} (ha : a < 2 ^ 31) {off : Int} {tgt : Nat} (hd : decode cc pc = .ok (.ifCond .ne off, 3)) (ht : (pc : Int) + off = (tgt : Int)) (hp : pc + 3 = pc') (kt : a ≠ 0 → G p l e R s m args below meth c κ nL J ws k n Q tgt lv st) (kf : a = 0 → G p l e R s m args below meth c κ nL J ws k n Q pc' lv st) : G p l e R s m args below meth c κ nL J ws k n Q pc lv (.int (nI a) :: st) := by
  have hb : (0 : Nat) < 2 ^ 31 := by decide
  exact g_if_ne C hd ht hp (fun z => kt (fun q => z ((nI_eq ha hb).mpr q))) (fun z => kf ((nI_eq ha hb).mp z))
theorem g_icmp_ltN (C : Cx p s m meth c κ own cc nL ret) {a b : Nat} (ha : a < 2 ^ 31) (hb : b < 2 ^ 31) {off : Int} {tgt : Nat} (hd : decode cc pc = .ok (.if_icmp .lt off, 3)) (ht : (pc : Int) + off = (tgt : Int)) (hp : pc + 3 = pc') (kt : a < b → G p l e R s m args below meth c κ nL J ws k n Q tgt lv st) (kf : b ≤ a → G p l e R s m args below meth c κ nL J ws k n Q pc' lv st) : G p l e R s m args below meth c κ nL J ws k n Q pc lv (.int (nI b) :: .int (nI a) :: st) :=
  g_icmp_lt C hd ht hp (fun z => kt ((nI_ltI ha hb).mp z)) (fun z => kf (Nat.not_lt.mp (fun q => z ((nI_ltI ha hb).mpr q))))
theorem g_if_ltN (C : Cx p s m meth c κ own cc nL ret) {a : Nat} (ha : a < 2 ^ 31) {off : Int} {tgt : Nat} (hd : decode cc pc = .ok (.ifCond .lt off, 3)) (ht : (pc : Int) + off = (tgt : Int)) (hp : pc + 3 = pc') (kf : G p l e R s m args below meth c κ nL J ws k n Q pc' lv st) : G p l e R s m args below meth c κ nL J ws k n Q pc lv (.int (nI a) :: st) :=
  g_if_lt C hd ht hp (fun z => absurd z (nI_pos ha)) (fun _ => kf)
theorem g_icmp_geN (C : Cx p s m meth c κ own cc nL ret) {a b : Nat} (ha : a < 2 ^ 31) (hb : b < 2 ^ 31) {off : Int} {tgt : Nat} (hd : decode cc pc = .ok (.if_icmp .ge off, 3)) (ht : (pc : Int) + off = (tgt : Int)) (hp : pc + 3 = pc') (kt : b ≤ a → G p l e R s m args below meth c κ nL J ws k n Q tgt lv st) (kf : a < b → G p l e R s m args below meth c κ nL J ws k n Q pc' lv st) : G p l e R s m args below meth c κ nL J ws k n Q pc lv (.int (nI b) :: .int (nI a) :: st) :=
  g_icmp_ge C hd ht hp (fun z => kt ((nI_leI hb ha).mp z)) (fun z => kf (Nat.not_le.mp (fun q => z ((nI_leI hb ha).mpr q))))
theorem g_if_geN (C : Cx p s m meth c κ own cc nL ret) {a : Nat} (ha : a < 2 ^ 31) {off : Int} {tgt : Nat} (hd : decode cc pc = .ok (.ifCond .ge off, 3)) (ht : (pc : Int) + off = (tgt : Int)) (hp : pc + 3 = pc') (kt : G p l e R s m args below meth c κ nL J ws k n Q tgt lv st) : G p l e R s m args below meth c κ nL J ws k n Q pc lv (.int (nI a) :: st) :=
  g_if_ge C hd ht hp (fun _ => kt) (fun z => absurd (nI_pos' ha) z)
theorem g_icmp_gtN (C : Cx p s m meth c κ own cc nL ret) {a b : Nat} (ha : a < 2 ^ 31) (hb : b < 2 ^ 31) {off : Int} {tgt : Nat} (hd : decode cc pc = .ok (.if_icmp .gt off, 3)) (ht : (pc : Int) + off = (tgt : Int)) (hp : pc + 3 = pc') (kt : b < a → G p l e R s m args below meth c κ nL J ws k n Q tgt lv st) (kf : a ≤ b → G p l e R s m args below meth c κ nL J ws k n Q pc' lv st) : G p l e R s m args below meth c κ nL J ws k n Q pc lv (.int (nI b) :: .int (nI a) :: st) :=
  g_icmp_gt C hd ht hp (fun z => kt ((nI_ltI hb ha).mp z)) (fun z => kf (Nat.not_lt.mp (fun q => z ((nI_ltI hb ha).mpr q))))
theorem g_if_gtN (C : Cx p s m meth c κ own cc nL ret) {a : Nat} (ha : a < 2 ^ 31) {off : Int} {tgt : Nat} (hd : decode cc pc = .ok (.ifCond .gt off, 3)) (ht : (pc : Int) + off = (tgt : Int)) (hp : pc + 3 = pc') (kt : 0 < a → G p l e R s m args below meth c κ nL J ws k n Q tgt lv st) (kf : a ≤ 0 → G p l e R s m args below meth c κ nL J ws k n Q pc' lv st) : G p l e R s m args below meth c κ nL J ws k n Q pc lv (.int (nI a) :: st) := by
  have hb : (0 : Nat) < 2 ^ 31 := by decide
  exact g_if_gt C hd ht hp (fun z => kt ((nI_ltI hb ha).mp z)) (fun z => kf (Nat.not_lt.mp (fun q => z ((nI_ltI hb ha).mpr q))))
theorem g_icmp_leN (C : Cx p s m meth c κ own cc nL ret) {a b : Nat} (ha : a < 2 ^ 31) (hb : b < 2 ^ 31) {off : Int} {tgt : Nat} (hd : decode cc pc = .ok (.if_icmp .le off, 3)) (ht : (pc : Int) + off = (tgt : Int)) (hp : pc + 3 = pc') (kt : a ≤ b → G p l e R s m args below meth c κ nL J ws k n Q tgt lv st) (kf : b < a → G p l e R s m args below meth c κ nL J ws k n Q pc' lv st) : G p l e R s m args below meth c κ nL J ws k n Q pc lv (.int (nI b) :: .int (nI a) :: st) :=
  g_icmp_le C hd ht hp (fun z => kt ((nI_leI ha hb).mp z)) (fun z => kf (Nat.not_le.mp (fun q => z ((nI_leI ha hb).mpr q))))
theorem g_if_leN (C : Cx p s m meth c κ own cc nL ret) {a : Nat} (ha : a < 2 ^ 31) {off : Int} {tgt : Nat} (hd : decode cc pc = .ok (.ifCond .le off, 3)) (ht : (pc : Int) + off = (tgt : Int)) (hp : pc + 3 = pc') (kt : a ≤ 0 → G p l e R s m args below meth c κ nL J ws k n Q tgt lv st) (kf : 0 < a → G p l e R s m args below meth c κ nL J ws k n Q pc' lv st) : G p l e R s m args below meth c κ nL J ws k n Q pc lv (.int (nI a) :: st) := by
  have hb : (0 : Nat) < 2 ^ 31 := by decide
  exact g_if_le C hd ht hp (fun z => kt ((nI_leI ha hb).mp z)) (fun z => kf (Nat.not_le.mp (fun q => z ((nI_leI ha hb).mpr q))))
theorem g_if_eqB (C : Cx p s m meth c κ own cc nL ret) {b : Bool} {off : Int} {tgt : Nat} (hd : decode cc pc = .ok (.ifCond .eq off, 3)) (ht : (pc : Int) + off = (tgt : Int)) (hp : pc + 3 = pc') (kt : b = false → G p l e R s m args below meth c κ nL J ws k n Q tgt lv st) (kf : b = true → G p l e R s m args below meth c κ nL J ws k n Q pc' lv st) : G p l e R s m args below meth c κ nL J ws k n Q pc lv (.int (b2i b) :: st) := by
  refine g_if_eq C hd ht hp (fun z => kt ?_) (fun z => kf ?_)
  · cases b with
    | false => rfl
    | true => exact absurd z (by decide)
  · cases b with
    | true => rfl
    | false => exact absurd rfl z
theorem g_if_neB (C : Cx p s m meth c κ own cc nL ret) {b : Bool} {off : Int} {tgt : Nat} (hd : decode cc pc = .ok (.ifCond .ne off, 3)) (ht : (pc : Int) + off = (tgt : Int)) (hp : pc + 3 = pc') (kt : b = true → G p l e R s m args below meth c κ nL J ws k n Q tgt lv st) (kf : b = false → G p l e R s m args below meth c κ nL J ws k n Q pc' lv st) : G p l e R s m args below meth c κ nL J ws k n Q pc lv (.int (b2i b) :: st) := by
  refine g_if_ne C hd ht hp (fun z => kt ?_) (fun z => kf ?_)
  · cases b with
    | true => rfl
    | false => exact absurd rfl z
  · cases b with
    | false => rfl
    | true => exact absurd z (by decide)
/-! ===== fields, arrays, new things ===== -/
def FL (own : String) (idx ci f : Nat) : Prop := ∃ (CN : String) (T : u_T) (N : Nat) (ref : String), vwCl[ci]? = some (CN, T, N) ∧ (∀ w ∈ u_ws CN T N, w ∈ T1) ∧ f < N ∧ Cond.fieldLink own idx ref (T f).2.1 (T f).2.2.1 ∈ T1 ∧ (ref = (T f).1 ∨ Cond.sameField ref (T f).1 (T f).2.1 (T f).2.2.1 ∈ T1)
def FN (own : String) (idx ci f : Nat) : Prop := ∃ (CN : String) (T : u_T) (N : Nat) (ref host : String), vwCl[ci]? = some (CN, T, N) ∧ (∀ w ∈ u_ws CN T N, w ∈ T1) ∧ f < N ∧ Cond.fieldLinkNest own idx ref (T f).2.1 (T f).2.2.1 host ∈ T1 ∧ ref = (T f).1
def FP (own : String) (idx ci f : Nat) (ty : FieldType) (fin : Bool) : Prop := ∃ (CN : String) (T : u_T) (N : Nat) (ref : String) (ty0 : Nat → FieldType), vwCl[ci]? = some (CN, T, N) ∧ (∀ w ∈ u_ws CN T N, w ∈ T1) ∧ f < N ∧ Cond.fieldLink own idx ref (T f).2.1 (T f).2.2.1 ∈ T1 ∧ ref = (T f).1 ∧ (∀ k, k < N → parseFieldDescriptor (T k).2.2.1 = some (ty0 k)) ∧ (∀ a, a < N → ∀ b, b < N → a ≠ b → (T a).2.1 ≠ (T b).2.1) ∧ (T f).2.2.2 = fin ∧ parseFieldDescriptor (T f).2.2.1 = some ty ∧ (fin = true → (T f).1 = own)
def NW (own : String) (idx ci : Nat) (fs : List Value) : Prop := ∃ (CN : String) (T : u_T) (N : Nat) (ty0 : Nat → FieldType), vwCl[ci]? = some (CN, T, N) ∧ N = fs.length ∧ (∀ w ∈ u_ws CN T N, w ∈ T1) ∧ (∀ k, k < N → parseFieldDescriptor (T k).2.2.1 = some (ty0 k)) ∧ Cond.classLink own idx CN ∈ T1 ∧ Cond.instantiable CN N ∈ T1 ∧ Cond.initialized CN ∈ T1 ∧ ∀ j, j < N → defaultValue (ty0 j) = vp_V fs j
theorem nI_cl (j : Nat) (h : j < 2 ^ 31) : (nI j).toNatClampNeg = j := nI_clamp h
theorem g_get (C : Cx p s m meth c κ own cc nL ret) {idx ci f : Nat} (F : FL own idx ci f) (q0 : Nat) {a : Nat} {fs : List Value} (he : ws[q0]? = some (a, .inr (ci, fs))) {v : Value} (hv : fs[f]? = some v) (hd : decode cc pc = .ok (.getfield idx, 3)) (hp : pc + 3 = pc') (K : G p l e R s m args below meth c κ nL J ws k n Q pc' lv (v :: st)) : G p l e R s m args below meth c κ nL J ws k n Q pc lv (.ref a :: st) := by
  subst hp
  obtain ⟨CN, T, N, ref, h1, h2, h3, h4, h5⟩ := F
  obtain ⟨hx, hb, -, -, -, hown, hK, hE⟩ := C
  refine fun H locs ls hP hJ hl => va_get (D := κ.1) (Ts := T1) hx hb (fun w hw => hE w hw args) h2 hown hK hP q0 he h1 f h3 (hE _ h4 args) (fun x hx => ?_) hv hd (K H locs ls hP hJ hl)
  rcases h5 with h5 | h5
  · rw [h5]; exact hx
  · exact u_same (hE _ h5 args) x hx
theorem g_getN (C : Cx p s m meth c κ own cc nL ret) {idx ci f : Nat} (F : FN own idx ci f) (q0 : Nat) {a : Nat} {fs : List Value} (he : ws[q0]? = some (a, .inr (ci, fs))) {v : Value} (hv : fs[f]? = some v) (hd : decode cc pc = .ok (.getfield idx, 3)) (hp : pc + 3 = pc') (K : G p l e R s m args below meth c κ nL J ws k n Q pc' lv (v :: st)) : G p l e R s m args below meth c κ nL J ws k n Q pc lv (.ref a :: st) := by
  subst hp
  obtain ⟨CN, T, N, ref, host, h1, h2, h3, h4, h5⟩ := F
  obtain ⟨hx, hb, -, -, -, hown, hK, hE⟩ := C
  exact fun H locs ls hP hJ hl => va_getN (D := κ.1) (Ts := T1) hx hb (fun w hw => hE w hw args) h2 hown hK hP q0 he h1 f h3 (hE _ h4 args) (fun x hx => by rw [h5]; exact hx) hv hd (K H locs ls hP hJ hl)
theorem g_put {A : Nat → Prop} (C : Cx p s m meth c κ own cc nL ret) {idx ci f : Nat} {ty : FieldType} (F : FP own idx ci f ty false) (q0 : Nat) {a : Nat} {fs : List Value} (he : ws[q0]? = some (a, .inr (ci, fs))) {v : Value} (hn : narrow ty v = v) (hf : fits ty v = true) (hl0 : f < fs.length) {ws' : va_W} (hw : ws.set q0 (a, .inr (ci, fs.set f v)) = ws') (hd : decode cc pc = .ok (.putfield idx, 3)) (hp : pc + 3 = pc') (K : G p l e R s m args below meth c κ nL (JM A s) ws' k n Q pc' lv st) : G p l e R s m args below meth c κ nL (JM A s) ws k n Q pc lv (v :: .ref a :: st) := by
  subst hp; subst hw
  obtain ⟨CN, T, N, ref, ty0, h1, h2, h3, h4, h5, h6, h7, h8, h9, -⟩ := F
  obtain ⟨hx, hb, -, -, -, hown, hK, hE⟩ := C
  exact fun H locs ls hP hJ hl => va_put (D := κ.1) (Ts := T1) hx hb (fun w hw => hE w hw args) h2 ty0 h6 h7 hown hK hP hJ.1 hJ.2 q0 he h1 f h3 (hE _ h4 args) (fun x hx => by rw [h5]; exact hx) h8 h9 hn hf hl0 hd (fun H1 locs1 hP1 hD1 hS1 => K H1 locs1 ls hP1 ⟨hD1, hS1⟩ hl)
theorem g_putF {A : Nat → Prop} (C : Cx p s m meth c κ own cc nL ret) (hi : meth.name = "<init>") {idx ci f : Nat} {ty : FieldType} (F : FP own idx ci f ty true) (q0 : Nat) {a : Nat} {fs : List Value} (he : ws[q0]? = some (a, .inr (ci, fs))) {v : Value} (hn : narrow ty v = v) (hf : fits ty v = true) (hl0 : f < fs.length) {ws' : va_W} (hw : ws.set q0 (a, .inr (ci, fs.set f v)) = ws') (hd : decode cc pc = .ok (.putfield idx, 3)) (hp : pc + 3 = pc') (K : G p l e R s m args below meth c κ nL (JM A s) ws' k n Q pc' lv st) : G p l e R s m args below meth c κ nL (JM A s) ws k n Q pc lv (v :: .ref a :: st) := by
  subst hp; subst hw
  obtain ⟨CN, T, N, ref, ty0, h1, h2, h3, h4, h5, h6, h7, h8, h9, h10⟩ := F
  obtain ⟨hx, hb, -, -, -, hown, hK, hE⟩ := C
  exact fun H locs ls hP hJ hl => va_putF (D := κ.1) (Ts := T1) hx hb (fun w hw => hE w hw args) h2 ty0 h6 h7 hown hK hP hJ.1 hJ.2 q0 he h1 f h3 (hE _ h4 args) (fun x hx => by rw [h5]; exact hx) h8 hi (h10 rfl) h9 hn hf hl0 hd (fun H1 locs1 hP1 hD1 hS1 => K H1 locs1 ls hP1 ⟨hD1, hS1⟩ hl)
theorem g_iald (C : Cx p s m meth c κ own cc nL ret) (q0 : Nat) {a z : Nat} {f : Nat → Int32} (he : ws[q0]? = some (a, .inl (κ.2 0, z, .inl f))) (j : Nat) (hj : j < z) (hz : z < 2 ^ 31) (hd : decode cc pc = .ok (.iaload, 1)) (hp : pc + 1 = pc') (K : G p l e R s m args below meth c κ nL J ws k n Q pc' lv (.int (f j) :: st)) : G p l e R s m args below meth c κ nL J ws k n Q pc lv (.int (nI j) :: .ref a :: st) := by
  subst hp
  obtain ⟨hx, hb, -, -, -, hown, hK, hE⟩ := C
  refine fun H locs ls hP hJ hl => va_iald hx hb hK hP q0 0 he rfl (vp_in_nI hj hz) hd ?_
  rw [nI_clamp (Nat.lt_trans hj hz)]
  exact K H locs ls hP hJ hl
theorem g_iast {A : Nat → Prop} (C : Cx p s m meth c κ own cc nL ret) (q0 : Nat) {a z : Nat} {f : Nat → Int32} {x : Int32} (he : ws[q0]? = some (a, .inl (κ.2 0, z, .inl f))) (j : Nat) (hj : j < z) (hz : z < 2 ^ 31) {ws' : va_W} (hw : ws.set q0 (a, .inl (κ.2 0, z, .inl (upd f j x))) = ws') (hd : decode cc pc = .ok (.iastore, 1)) (hp : pc + 1 = pc') (K : G p l e R s m args below meth c κ nL (JM A s) ws' k n Q pc' lv st) : G p l e R s m args below meth c κ nL (JM A s) ws k n Q pc lv (.int x :: .int (nI j) :: .ref a :: st) := by
  subst hp; subst hw
  obtain ⟨hx, hb, -, -, -, hown, hK, hE⟩ := C
  refine fun H locs ls hP hJ hl => va_iast hx hb hK hP hJ.1 hJ.2 q0 0 he rfl (vp_in_nI hj hz) hd (fun H1 locs1 hP1 hD1 hS1 => ?_)
  rw [nI_clamp (Nat.lt_trans hj hz)] at hP1 hD1
  exact K H1 locs1 ls hP1 ⟨hD1, hS1⟩ hl
/-- a row out of an array of arrays: it is known, which -/
theorem g_aald2 (C : Cx p s m meth c κ own cc nL ret) (q0 : Nat) {a z b : Nat} {f : Nat → Option Nat} (he : ws[q0]? = some (a, .inl (κ.2 3, z, .inr (.inr (.inr (.inr f)))))) (j : Nat) (hj : j < z) (hz : z < 2 ^ 31) (hf : f j = some b) (hd : decode cc pc = .ok (.aaload, 1)) (hp : pc + 1 = pc') (K : G p l e R s m args below meth c κ nL J ws k n Q pc' lv (.ref b :: st)) : G p l e R s m args below meth c κ nL J ws k n Q pc lv (.int (nI j) :: .ref a :: st) := by
  subst hp
  obtain ⟨hx, hb, -, -, -, hown, hK, hE⟩ := C
  intro H locs ls hP hJ hl
  have hin : vp_in (nI j) z := vp_in_nI hj hz
  have hc : (nI j).toNatClampNeg = j := nI_clamp (Nat.lt_trans hj hz)
  exact W.aald (v := .ref b) (ty := .array .int) hx hb (hP q0 _ he) ((hK.2 3 _ rfl).1 z (fun j => va_rf (f j))) rfl (fun q => by cases q) (by show ¬ (nI j < 0 ∨ (arrV _ _ _).slots.size ≤ _); rw [arrV_size]; exact hin) (by show (arrV _ _ _).slots[_]? = _; rw [hc, arrV_read _ _ hj]; show some (va_rf (f j)) = _; rw [hf]; rfl) rfl rfl hd (K H locs ls hP hJ hl)
/-- an entry out of the array of entries: none, or which -/
theorem g_aaldE (C : Cx p s m meth c κ own cc nL ret) (q0 : Nat) {a z : Nat} {f : Nat → Option Nat} (he : ws[q0]? = some (a, .inl (κ.2 2, z, .inr (.inr (.inr (.inr f)))))) (j : Nat) (hj : j < z) (hz : z < 2 ^ 31) (hd : decode cc pc = .ok (.aaload, 1)) (hp : pc + 1 = pc') (kn : f j = none → G p l e R s m args below meth c κ nL J ws k n Q pc' lv (.null :: st)) (ks : ∀ b, f j = some b → G p l e R s m args below meth c κ nL J ws k n Q pc' lv (.ref b :: st)) : G p l e R s m args below meth c κ nL J ws k n Q pc lv (.int (nI j) :: .ref a :: st) := by
  subst hp
  obtain ⟨hx, hb, -, -, -, hown, hK, hE⟩ := C
  intro H locs ls hP hJ hl
  refine va_aldq hx hb hK hP q0 2 he rfl (vp_in_nI hj hz) hd ?_
  rw [nI_clamp (Nat.lt_trans hj hz)]
  cases h : f j with
  | none => exact kn h H locs ls hP hJ hl
  | some b => exact ks b h H locs ls hP hJ hl
theorem g_alen (C : Cx p s m meth c κ own cc nL ret) (q0 t0 : Nat) {a : Nat} {cA : ClassId} {x : vp_A} (he : ws[q0]? = some (a, .inl (cA, x))) {ty : FieldType} (ht : (tysK κ)[t0]? = some (cA, ty)) (hd : decode cc pc = .ok (.arraylength, 1)) (hp : pc + 1 = pc') (K : G p l e R s m args below meth c κ nL J ws k n Q pc' lv (.int (nI x.1) :: st)) : G p l e R s m args below meth c κ nL J ws k n Q pc lv (.ref a :: st) := by
  subst hp
  obtain ⟨hx, hb, -, -, -, hown, hK, hE⟩ := C
  exact fun H locs ls hP hJ hl => va_alen hx hb hK hP q0 t0 he ht rfl hd (K H locs ls hP hJ hl)
theorem g_new {A : Nat → Prop} (C : Cx p s m meth c κ own cc nL ret) (hA : ∀ q, s.heap.size ≤ q → A q) {idx ci : Nat} {fs : List Value} (F : NW own idx ci fs) {z : Nat} (hz : fs.length = z) (h1 : k + 1 ≤ R.cells) (h2 : n + z ≤ R.slots) (hd : decode cc pc = .ok (.new idx, 3)) (hp : pc + 3 = pc') (K : ∀ q : Nat, G p l e R s m args below meth c κ nL (JM A s) (ws ++ [(q, .inr (ci, fs))]) (k + 1) (n + z) Q pc' lv (.ref q :: st)) : G p l e R s m args below meth c κ nL (JM A s) ws k n Q pc lv st := by
  subst hp; subst hz
  obtain ⟨CN, T, N, ty0, f1, f2, f3, f4, f5, f6, f7, f8⟩ := F
  subst f2
  obtain ⟨hx, hb, -, -, -, hown, hK, hE⟩ := C
  exact fun H locs ls hP hJ hl => va_new (D := κ.1) (Ts := T1) hx hb (fun w hw => hE w hw args) f3 ty0 f4 hown (hE _ f5 args) (hE _ f6 args) (hE _ f7 args) hK hP hJ.1 hJ.2 hA f1 f8 h1 h2 hd (fun q H1 hP1 hD1 hS1 => K q H1 locs ls hP1 ⟨hD1, hS1⟩ hl)
theorem tys_one {s : State} {cA cB : ClassId} {ty : FieldType} (hty : ∀ t, ty ≠ .object t) (ha : va_RA s cA ty) (hb : va_RA s cB ty) : cA = cB := by
  cases ty with
  | object t => exact absurd rfl (hty t)
  | _ => exact Option.some.inj (Eq.trans (Eq.symm ha) hb)
theorem g_newI {A : Nat → Prop} (C : Cx p s m meth c κ own cc nL ret) (hA : ∀ q, s.heap.size ≤ q → A q) (hw : Cond.arrayClass .int ∈ T1) {z : Nat} (hz : z * 4 ≤ 536870912) (h1 : k + 1 ≤ R.cells) (h2 : n + z ≤ R.slots) (hd : decode cc pc = .ok (.newarray .int, 2)) (hp : pc + 2 = pc') (K : ∀ q : Nat, G p l e R s m args below meth c κ nL (JM A s) (ws ++ [(q, .inl (κ.2 0, z, .inl (fun _ => 0)))]) (k + 1) (n + z) Q pc' lv (.ref q :: st)) : G p l e R s m args below meth c κ nL (JM A s) ws k n Q pc lv (.int (nI z) :: st) := by
  subst hp
  obtain ⟨hx, hb, -, -, -, hown, hK, hE⟩ := C
  have hz2 : z < 2 ^ 31 := by omega
  refine fun H locs ls hP hJ hl => va_newa (atype := .int) (ty := .int) (N' := z) (a0 := (z, .inl (fun _ => 0))) hx hb (hE _ hw args) rfl hK hP hJ.1 hJ.2 hA (fun _ => rfl) (nI_pos hz2) (nI_clamp hz2) hz h1 h2 hd (fun q cA H1 hK1 hP1 hD1 hS1 => ?_)
  have e : cA = κ.2 0 := tys_one (fun t h => by cases h) (hK1.2 5 _ rfl).2 (hK.2 0 _ rfl).2
  subst e
  exact K q H1 locs ls hP1 ⟨hD1, hS1⟩ hl
/-! ===== contracts: pure (P), writing (M), that may throw (X) ===== -/
def rmv (d mc ms : Nat) : Room := { frames := d + 8, cells := mc, slots := ms, locals := 200 + 40 * d }
def PcP (κ : KK) (av : List Value) (wc : va_W) : Array Value → State → Prop := va_Pc av (fun U => va_P κ.1 vwCl wc U.heap ∧ EV κ U)
def PcM (κ : KK) (av : List Value) (wc : va_W) (sz : Nat) : Array Value → State → Prop := va_Pc av (fun U => U.heap.size = sz ∧ va_P κ.1 vwCl wc U.heap ∧ va_D (fun _ => True) wc ∧ EV κ U)
def ST (A : Nat → Prop) (U : State) : Prop := vx_Zq Bundle.tN "UNASSIGNED_STACK" Bundle.steD A U U.heap ∧ vx_Zq Bundle.tN "SUPPRESSED_SENTINEL" Bundle.listD A U U.heap
def strL : List (String × Nat × String) := [("Pocketgloss", 60, "kind or step is out of range"), ("Pocketgloss", 71, "there are as many rules as there may be"), ("Pocketgloss", 220, "there is no such word"), ("Pocketgloss", 89, "the draft is full"), ("Pocketgloss", 91, "the first part is open"), ("Pocketgloss", 145, "cost is out of range"), ("Pocketgloss", 96, "the draft is empty"), ("Pocketgloss", 98, "the last part is open"), ("Pocketgloss", 233, "as many entries were made as may be"), ("Pocketgloss", 118, "reach is out of range"), ("Pocketgloss", 227, "there is no such entry"), ("Pocketgloss", 136, "the sentence is full"), ("Pocketgloss", 238, "the sentence has no such place"), ("Pocketgloss", 223, "there is no such reader"), ("Pocketgloss", 189, "the reader has a card for it"), ("Pocketgloss", 203, "the reader has no card for it that is due"), ("Pocketgloss", 216, "days is out of range")]
def PcX (κ : KK) (av : List Value) (wc : va_W) (sz : Nat) : Array Value → State → Prop := va_Pc av (fun U => U.heap.size = sz ∧ va_P κ.1 vwCl wc U.heap ∧ va_D (fun _ => True) wc ∧ EV κ U ∧ ES strL U ∧ ST (va_A wc sz) U)
abbrev BM (κ : KK) (wc : va_W) (sz : Nat) : va_W → State → Prop := fun w1 t => va_P κ.1 vwCl w1 t.heap ∧ va_D (va_A wc sz) w1
def QMi (κ : KK) (wc : va_W) (sz : Nat) (post : Int32 → va_W → Prop) : Array Value → State → Outcome → State → Prop := va_Qi post (BM κ wc sz) (va_A wc sz)
def QMv (κ : KK) (wc : va_W) (sz : Nat) (post : va_W → Prop) : Array Value → State → Outcome → State → Prop := va_Qv post (BM κ wc sz) (va_A wc sz)
def QMr (κ : KK) (wc : va_W) (sz : Nat) (post : Nat → va_W → Prop) : Array Value → State → Outcome → State → Prop := va_Qr (fun u : Nat × va_W => post u.1 u.2) (fun u a t => a = u.1 ∧ BM κ wc sz u.2 t) (va_A wc sz)
def XP (es : String → Prop) : String → State → State → Prop := vx_X (fun _ : Unit => True) (fun E _ _ => es E) (fun _ => False)
def CP (l : Launch) (y : MethodName) (cb : ByteArray) (yL : Nat) (yr : Option FieldType) (d : Nat) (κ : KK) (av : List Value) (wc : va_W) (post : Int32 → Prop) : Prop := Met l y [.code y cb yL yr] (rmv d 0 0) (PcP κ av wc) (vp_Si post) 0 0 (fun _ => False)
def CMi (l : Launch) (y : MethodName) (cb : ByteArray) (yL : Nat) (yr : Option FieldType) (d mc ms : Nat) (κ : KK) (av : List Value) (wc : va_W) (post : Int32 → va_W → Prop) : Prop := ∀ sz, Met l y [.code y cb yL yr] (rmv d mc ms) (PcM κ av wc sz) (QMi κ wc sz post) mc ms (va_A wc sz)
def CMv (l : Launch) (y : MethodName) (cb : ByteArray) (yL : Nat) (yr : Option FieldType) (d mc ms : Nat) (κ : KK) (av : List Value) (wc : va_W) (post : va_W → Prop) : Prop := ∀ sz, Met l y [.code y cb yL yr] (rmv d mc ms) (PcM κ av wc sz) (QMv κ wc sz post) mc ms (va_A wc sz)
def CMr (l : Launch) (y : MethodName) (cb : ByteArray) (yL : Nat) (yr : Option FieldType) (d mc ms : Nat) (κ : KK) (av : List Value) (wc : va_W) (post : Nat → va_W → Prop) : Prop := ∀ sz, Met l y [.code y cb yL yr] (rmv d mc ms) (PcM κ av wc sz) (QMr κ wc sz post) mc ms (va_A wc sz)
def CXi (l : Launch) (y : MethodName) (cb : ByteArray) (yL : Nat) (yr : Option FieldType) (d mc ms : Nat) (κ : KK) (av : List Value) (wc : va_W) (es : String → Prop) (post : Int32 → va_W → Prop) : Prop := ∀ sz, vx_Met l y [.code y cb yL yr] (rmv d mc ms) (PcX κ av wc sz) (QMi κ wc sz post) (XP es) mc ms (va_A wc sz)
def CXv (l : Launch) (y : MethodName) (cb : ByteArray) (yL : Nat) (yr : Option FieldType) (d mc ms : Nat) (κ : KK) (av : List Value) (wc : va_W) (es : String → Prop) (post : va_W → Prop) : Prop := ∀ sz, vx_Met l y [.code y cb yL yr] (rmv d mc ms) (PcX κ av wc sz) (QMv κ wc sz post) (XP es) mc ms (va_A wc sz)
theorem ST.call {A : Nat → Prop} {U : State} {g : JFrame} {mk : MethodId} {a : Array Value} (h : ST A U) : ST A (U.calling g mk a) := ⟨vx_Zq.moved (u := U) (U := U.calling g mk a) (Vm.Alike.refl U.vm) h.1, vx_Zq.moved (u := U) (U := U.calling g mk a) (Vm.Alike.refl U.vm) h.2⟩
theorem EV.call {κ : KK} {U : State} {g : JFrame} {mk : MethodId} {a : Array Value} (h : EV κ U) : EV κ (U.calling g mk a) := EV.warm (s := U) (U := U.calling g mk a) (State.WarmedH.refl U) h
theorem ES.call {L : List (String × Nat × String)} {U : State} {g : JFrame} {mk : MethodId} {a : Array Value} (h : ES L U) : ES L (U.calling g mk a) := ES.warm (s := U) (U := U.calling g mk a) (State.WarmedH.refl U) h
theorem PcP.blind {κ : KK} {av : List Value} {wc : va_W} : FrameBlind (PcP κ av wc) := fun _ _ _ _ q => ⟨q.1, q.2.1, q.2.2.call⟩
theorem PcM.blind {κ : KK} {av : List Value} {wc : va_W} {sz : Nat} : FrameBlind (PcM κ av wc sz) := fun _ _ _ _ q => ⟨q.1, q.2.1, q.2.2.1, q.2.2.2.1, q.2.2.2.2.call⟩
theorem PcX.blind {κ : KK} {av : List Value} {wc : va_W} {sz : Nat} : FrameBlind (PcX κ av wc sz) := fun _ _ _ _ q => ⟨q.1, q.2.1, q.2.2.1, q.2.2.2.1, q.2.2.2.2.1.call, q.2.2.2.2.2.1.call, q.2.2.2.2.2.2.call⟩
/-- what a body that may throw knows beside -/
def Cy (l : Launch) (s : State) (c : Code) (A : Nat → Prop) : Prop := l.stackTraces = false ∧ (∀ x ∈ c.exceptionTable.toList, False) ∧ ES strL s ∧ ST A s
theorem cp_of {y : MethodName} {cb : ByteArray} {yL : Nat} {yr : Option FieldType} {d : Nat} {av : List Value} {wc : va_W} {post : Int32 → Prop} (own : String) (hown : y.cls = own) (hy : plainName y.cls = true) (hn : (lg_sl av).length ≤ yL)
    (body : ∀ (p : Program) (e : Env) (s : State) (m : MethodId) (below : List Frame) (meth : Method) (c : Code), Cx p s m meth c κ own cb yL yr → G p l e (rmv d 0 0) s m av.toArray below meth c κ yL (JP s) wc 0 0 (MQ below (vp_Si post) av.toArray s 0 0 (fun _ => False)) 0 (lv_args 0 av) []) : CP l y cb yL yr d κ av wc post := by
  refine Met.ofW (cc := cb) (maxL := yL) (ret := yr) hy rfl ?_
  intro p e s m args below meth c s₁ B hml hv
  obtain ⟨rfl, hP, hE⟩ := hv
  have hl := lv_entry av (n := yL) hn
  rw [lg_entry_eq]
  exact body p e s m below meth c ⟨B.exec, B.bytes, hml, B.returns, B.notSynchronized, by rw [← hown]; exact findClass_of_methodNamed B.named, hE⟩ s.heap [] _ hP ⟨rfl, rfl⟩ hl
theorem cmi_of {y : MethodName} {cb : ByteArray} {yL : Nat} {yr : Option FieldType} {d mc ms : Nat} {av : List Value} {wc : va_W} {post : Int32 → va_W → Prop} (own : String) (hown : y.cls = own) (hy : plainName y.cls = true) (hn : (lg_sl av).length ≤ yL)
    (body : ∀ (p : Program) (e : Env) (s : State) (m : MethodId) (below : List Frame) (meth : Method) (c : Code) (A : Nat → Prop), Cx p s m meth c κ own cb yL yr → A = va_A wc s.heap.size → (∀ q, s.heap.size ≤ q → A q) → (y.name = "<init>" → meth.name = "<init>") → G p l e (rmv d mc ms) s m av.toArray below meth c κ yL (JM A s) wc 0 0 (MQ below (QMi κ wc s.heap.size post) av.toArray s mc ms A) 0 (lv_args 0 av) []) : CMi l y cb yL yr d mc ms κ av wc post := by
  intro sz
  refine Met.ofW (cc := cb) (maxL := yL) (ret := yr) hy rfl ?_
  intro p e s m args below meth c s₁ B hml hv
  obtain ⟨rfl, rfl, hP, hD, hE⟩ := hv
  have hl := lv_entry av (n := yL) hn
  rw [lg_entry_eq]
  exact body p e s m below meth c _ ⟨B.exec, B.bytes, hml, B.returns, B.notSynchronized, by rw [← hown]; exact findClass_of_methodNamed B.named, hE⟩ rfl (fun q h => Or.inr h) (fun h => (name_of_methodNamed B.named B.method).1.trans h) s.heap [] _ hP ⟨hD.self, va_S.rf⟩ hl
theorem cmv_of {y : MethodName} {cb : ByteArray} {yL : Nat} {yr : Option FieldType} {d mc ms : Nat} {av : List Value} {wc : va_W} {post : va_W → Prop} (own : String) (hown : y.cls = own) (hy : plainName y.cls = true) (hn : (lg_sl av).length ≤ yL)
    (body : ∀ (p : Program) (e : Env) (s : State) (m : MethodId) (below : List Frame) (meth : Method) (c : Code) (A : Nat → Prop), Cx p s m meth c κ own cb yL yr → A = va_A wc s.heap.size → (∀ q, s.heap.size ≤ q → A q) → (y.name = "<init>" → meth.name = "<init>") → G p l e (rmv d mc ms) s m av.toArray below meth c κ yL (JM A s) wc 0 0 (MQ below (QMv κ wc s.heap.size post) av.toArray s mc ms A) 0 (lv_args 0 av) []) : CMv l y cb yL yr d mc ms κ av wc post := by
  intro sz
  refine Met.ofW (cc := cb) (maxL := yL) (ret := yr) hy rfl ?_
  intro p e s m args below meth c s₁ B hml hv
  obtain ⟨rfl, rfl, hP, hD, hE⟩ := hv
  have hl := lv_entry av (n := yL) hn
  rw [lg_entry_eq]
  exact body p e s m below meth c _ ⟨B.exec, B.bytes, hml, B.returns, B.notSynchronized, by rw [← hown]; exact findClass_of_methodNamed B.named, hE⟩ rfl (fun q h => Or.inr h) (fun h => (name_of_methodNamed B.named B.method).1.trans h) s.heap [] _ hP ⟨hD.self, va_S.rf⟩ hl
theorem cmr_of {y : MethodName} {cb : ByteArray} {yL : Nat} {yr : Option FieldType} {d mc ms : Nat} {av : List Value} {wc : va_W} {post : Nat → va_W → Prop} (own : String) (hown : y.cls = own) (hy : plainName y.cls = true) (hn : (lg_sl av).length ≤ yL)
    (body : ∀ (p : Program) (e : Env) (s : State) (m : MethodId) (below : List Frame) (meth : Method) (c : Code) (A : Nat → Prop), Cx p s m meth c κ own cb yL yr → A = va_A wc s.heap.size → (∀ q, s.heap.size ≤ q → A q) → G p l e (rmv d mc ms) s m av.toArray below meth c κ yL (JM A s) wc 0 0 (MQ below (QMr κ wc s.heap.size post) av.toArray s mc ms A) 0 (lv_args 0 av) []) : CMr l y cb yL yr d mc ms κ av wc post := by
  intro sz
  refine Met.ofW (cc := cb) (maxL := yL) (ret := yr) hy rfl ?_
  intro p e s m args below meth c s₁ B hml hv
  obtain ⟨rfl, rfl, hP, hD, hE⟩ := hv
  have hl := lv_entry av (n := yL) hn
  rw [lg_entry_eq]
  exact body p e s m below meth c _ ⟨B.exec, B.bytes, hml, B.returns, B.notSynchronized, by rw [← hown]; exact findClass_of_methodNamed B.named, hE⟩ rfl (fun q h => Or.inr h) s.heap [] _ hP ⟨hD.self, va_S.rf⟩ hl
theorem cxi_of {y : MethodName} {cb : ByteArray} {yL : Nat} {yr : Option FieldType} {d mc ms : Nat} {av : List Value} {wc : va_W} {es : String → Prop} {post : Int32 → va_W → Prop} (hst : l.stackTraces = false) (own : String) (hown : y.cls = own) (hy : plainName y.cls = true) (hn : (lg_sl av).length ≤ yL)
    (body : ∀ (p : Program) (e : Env) (s : State) (m : MethodId) (below : List Frame) (meth : Method) (c : Code) (A : Nat → Prop), Cx p s m meth c κ own cb yL yr → Cy l s c A → A = va_A wc s.heap.size → (∀ q, s.heap.size ≤ q → A q) → G p l e (rmv d mc ms) s m av.toArray below meth c κ yL (JM A s) wc 0 0 (vx_MQ below (QMi κ wc s.heap.size post) (XP es) av.toArray s mc ms A) 0 (lv_args 0 av) []) : CXi l y cb yL yr d mc ms κ av wc es post := by
  intro sz
  refine vx_ofW (cc := cb) (maxL := yL) (ret := yr) hy rfl ?_
  intro p e s m args below meth c s₁ B hml ht hv
  obtain ⟨rfl, rfl, hP, hD, hE, hS, hT⟩ := hv
  have hl := lv_entry av (n := yL) hn
  rw [lg_entry_eq]
  exact body p e s m below meth c _ ⟨B.exec, B.bytes, hml, B.returns, B.notSynchronized, by rw [← hown]; exact findClass_of_methodNamed B.named, hE⟩ ⟨hst, ht, hS, hT⟩ rfl (fun q h => Or.inr h) s.heap [] _ hP ⟨hD.self, va_S.rf⟩ hl
theorem cxv_of {y : MethodName} {cb : ByteArray} {yL : Nat} {yr : Option FieldType} {d mc ms : Nat} {av : List Value} {wc : va_W} {es : String → Prop} {post : va_W → Prop} (hst : l.stackTraces = false) (own : String) (hown : y.cls = own) (hy : plainName y.cls = true) (hn : (lg_sl av).length ≤ yL)
    (body : ∀ (p : Program) (e : Env) (s : State) (m : MethodId) (below : List Frame) (meth : Method) (c : Code) (A : Nat → Prop), Cx p s m meth c κ own cb yL yr → Cy l s c A → A = va_A wc s.heap.size → (∀ q, s.heap.size ≤ q → A q) → G p l e (rmv d mc ms) s m av.toArray below meth c κ yL (JM A s) wc 0 0 (vx_MQ below (QMv κ wc s.heap.size post) (XP es) av.toArray s mc ms A) 0 (lv_args 0 av) []) : CXv l y cb yL yr d mc ms κ av wc es post := by
  intro sz
  refine vx_ofW (cc := cb) (maxL := yL) (ret := yr) hy rfl ?_
  intro p e s m args below meth c s₁ B hml ht hv
  obtain ⟨rfl, rfl, hP, hD, hE, hS, hT⟩ := hv
  have hl := lv_entry av (n := yL) hn
  rw [lg_entry_eq]
  exact body p e s m below meth c _ ⟨B.exec, B.bytes, hml, B.returns, B.notSynchronized, by rw [← hown]; exact findClass_of_methodNamed B.named, hE⟩ ⟨hst, ht, hS, hT⟩ rfl (fun q h => Or.inr h) s.heap [] _ hP ⟨hD.self, va_S.rf⟩ hl
/-! ends -/
theorem g_retP (C : Cx p s m meth c κ own cc nL ret) {v : Int32} {ty : FieldType} {post : Int32 → Prop} (hr : ret = some ty) (hn : narrow ty (.int v) = .int v) (hq : post v) (hd : decode cc pc = .ok (.ireturn, 1)) : G p l e R s m args below meth c κ nL (JP s) ws 0 0 (MQ below (vp_Si post) args s 0 0 (fun _ => False)) pc lv [.int v] :=
  fun H locs ls hP hJ hl => W.zret C.1 C.2.1 (C.2.2.2.1.trans hr) hn (fun t ht _ => ⟨v, rfl, hq, ht.trans hJ.1⟩) (fun q hq => by rw [hJ.2] at hq; cases hq) hd C.2.2.2.2.1
theorem g_retMi (C : Cx p s m meth c κ own cc nL ret) {A : Nat → Prop} {v : Int32} {ty : FieldType} {wc : va_W} {mc ms : Nat} {post : Int32 → va_W → Prop} (hAe : A = va_A wc s.heap.size) (hr : ret = some ty) (hn : narrow ty (.int v) = .int v) (h1 : k ≤ mc) (h2 : n ≤ ms) (hq : post v ws) (hd : decode cc pc = .ok (.ireturn, 1)) : G p l e R s m args below meth c κ nL (JM A s) ws k n (MQ below (QMi κ wc s.heap.size post) args s mc ms A) pc lv [.int v] := by
  subst hAe
  exact fun H locs ls hP hJ hl => W.widen h1 h2 (W.zret C.1 C.2.1 (C.2.2.2.1.trans hr) hn (fun t ht _ => ⟨⟨v, ws, rfl, hq, by rw [ht]; exact hP, hJ.1⟩, hJ.2.F ht⟩) hJ.2.2.2 hd C.2.2.2.2.1)
theorem g_retMv (C : Cx p s m meth c κ own cc nL ret) {A : Nat → Prop} {wc : va_W} {mc ms : Nat} {post : va_W → Prop} (hAe : A = va_A wc s.heap.size) (hr : ret = none) (h1 : k ≤ mc) (h2 : n ≤ ms) (hq : post ws) (hd : decode cc pc = .ok (.return_, 1)) : G p l e R s m args below meth c κ nL (JM A s) ws k n (MQ below (QMv κ wc s.heap.size post) args s mc ms A) pc lv [] := by
  subst hAe
  exact fun H locs ls hP hJ hl => W.widen h1 h2 (W.vret C.1 C.2.1 (C.2.2.2.1.trans hr) (fun t ht _ => ⟨⟨ws, rfl, hq, by rw [ht]; exact hP, hJ.1⟩, hJ.2.F ht⟩) hJ.2.2.2 hd C.2.2.2.2.1)
theorem g_retMr (C : Cx p s m meth c κ own cc nL ret) {A : Nat → Prop} {a : Nat} {rt : FieldType} {wc : va_W} {mc ms : Nat} {post : Nat → va_W → Prop} (hAe : A = va_A wc s.heap.size) (hr : ret = some rt) (hrt : (∃ z, rt = .object z) ∨ ∃ t, rt = .array t) (h1 : k ≤ mc) (h2 : n ≤ ms) (hq : post a ws) (hd : decode cc pc = .ok (.areturn, 1)) : G p l e R s m args below meth c κ nL (JM A s) ws k n (MQ below (QMr κ wc s.heap.size post) args s mc ms A) pc lv [.ref a] := by
  subst hAe
  exact fun H locs ls hP hJ hl => W.widen h1 h2 (W.aret C.1 C.2.1 (C.2.2.2.1.trans hr) hrt (Or.inr ⟨a, rfl⟩) (fun t ht _ => ⟨⟨(a, ws), a, rfl, hq, rfl, by rw [ht]; exact hP, hJ.1⟩, hJ.2.F ht⟩) hJ.2.2.2 hd C.2.2.2.2.1)
theorem g_x {Qc : Array Value → State → Outcome → State → Prop} {XC : String → State → State → Prop} {mc ms : Nat} {free : Addr → Prop} (K : G p l e R s m args below meth c κ nL J ws k n (MQ below Qc args s mc ms free) pc lv st) : G p l e R s m args below meth c κ nL J ws k n (vx_MQ below Qc XC args s mc ms free) pc lv st := fun H locs ls hP hJ hl T hT X => by
  obtain ⟨t, a1, o, b1, b2, b3, b4⟩ := K H locs ls hP hJ hl T hT X
  exact ⟨t, a1, o, b1, b2, Or.inl ⟨b3, b4⟩⟩
/-! links -/
def hdY (y : MethodName) (nA : Nat) : Prop := y.cls ≠ "java/lang/invoke/MethodHandle" ∧ y.cls ≠ "java/lang/invoke/VarHandle" ∧ (parseMethodDescriptor y.desc).map (fun d => d.parameters.length) = some nA
def LV (own : String) (idx : Nat) (y : MethodName) (cb : ByteArray) (yL : Nat) (yr : Option FieldType) (nA : Nat) : Prop := (Cond.methodLink own idx y ∈ T1 ∨ ∃ host, Cond.methodLinkNest own idx y host ∈ T1) ∧ Cond.instanceMethod y ∈ T1 ∧ Cond.selects y.cls y y ∈ T1 ∧ Cond.initialized y.cls ∈ T1 ∧ Cond.code y cb yL yr ∈ T1 ∧ hdY y nA
def LI (own : String) (idx : Nat) (y : MethodName) (cb : ByteArray) (yL : Nat) (nA : Nat) : Prop := (Cond.methodLink own idx y ∈ T1 ∨ ∃ host, Cond.methodLinkNest own idx y host ∈ T1) ∧ Cond.instanceMethod y ∈ T1 ∧ Cond.initialized y.cls ∈ T1 ∧ Cond.code y cb yL none ∈ T1 ∧ y.name = "<init>" ∧ hdY y nA
def LSt (own : String) (idx : Nat) (y : MethodName) (cb : ByteArray) (yL : Nat) (yr : Option FieldType) (nA : Nat) : Prop := (Cond.methodLink own idx y ∈ T1 ∨ ∃ host, Cond.methodLinkNest own idx y host ∈ T1) ∧ Cond.static y ∈ T1 ∧ Cond.initialized y.cls ∈ T1 ∧ Cond.code y cb yL yr ∈ T1 ∧ hdY y nA
theorem T1.code {y : MethodName} {cb : ByteArray} {yL : Nat} {yr : Option FieldType} (h : Cond.code y cb yL yr ∈ T1) : GoodIn T1 [Cond.code y cb yL yr] := fun w hw => by
  rw [List.mem_singleton] at hw
  subst hw
  exact ⟨h, Or.inl rfl⟩
theorem cb_of (C : Cx p s m meth c κ own cc nL ret) {idx : Nat} {y : MethodName} {cb : ByteArray} {yL : Nat} {yr : Option FieldType} {nA d mc ms : Nat} (h1 : Cond.methodLink own idx y ∈ T1) (h4 : Cond.initialized y.cls ∈ T1) (h5 : Cond.code y cb yL yr ∈ T1) (h6 : hdY y nA) (hR : d + 9 ≤ R.frames ∧ 219 + yL + 40 * d ≤ R.locals) : CallB R s args own idx y cb yL yr [.code y cb yL yr] (rmv d mc ms) mc ms nA :=
  callB_of nA (fun w hw => C.2.2.2.2.2.2.2 w hw args) (T1.code h5) rfl rfl rfl (C.2.2.2.2.2.2.2 _ h4 args) (C.2.2.2.2.2.2.2 _ h1 args) h6 ⟨by show d + 8 + 1 ≤ _; omega, by show 8 + (yL + 11) + (200 + 40 * d) ≤ _; omega⟩
theorem cn_of (C : Cx p s m meth c κ own cc nL ret) {idx : Nat} {y : MethodName} {cb : ByteArray} {yL : Nat} {yr : Option FieldType} {nA d mc ms : Nat} {host : String} (h1 : Cond.methodLinkNest own idx y host ∈ T1) (h4 : Cond.initialized y.cls ∈ T1) (h5 : Cond.code y cb yL yr ∈ T1) (h6 : hdY y nA) (hR : d + 9 ≤ R.frames ∧ 219 + yL + 40 * d ≤ R.locals) : va_CN R s args own idx y host cb yL yr [.code y cb yL yr] (rmv d mc ms) mc ms nA :=
  va_cnB nA (fun w hw => C.2.2.2.2.2.2.2 w hw args) (T1.code h5) rfl rfl rfl (C.2.2.2.2.2.2.2 _ h1 #[]) (C.2.2.2.2.2.2.2 _ h4 args) h6 ⟨by show d + 8 + 1 ≤ _; omega, by show 8 + (yL + 11) + (200 + 40 * d) ≤ _; omega⟩
theorem g_runV (C : Cx p s m meth c κ own cc nL ret) {idx : Nat} {y : MethodName} {cb : ByteArray} {yL : Nat} {yr : Option FieldType} {nA d mc ms : Nat} (L : LV own idx y cb yL yr nA) {Pc : Array Value → State → Prop} {Qc : Array Value → State → Outcome → State → Prop} {free : Addr → Prop} (hM : Met l y [.code y cb yL yr] (rmv d mc ms) Pc Qc mc ms free) {H : Heap} {locs : List Loc} {ls : Array Slot} {b : Nat} {av : List Value} (hp : PreV s H y.cls b Pc av) (hlen : av.length = nA) (hls : ls.size = nL) (hcat : (st.map fun v => v.category).sum ≤ 8) (hR : d + 9 ≤ R.frames ∧ 219 + yL + 40 * d ≤ R.locals) (hf : k + mc ≤ R.cells ∧ n + ms ≤ R.slots) {stk : List Value} (hst : av.reverse ++ .ref b :: st = stk) (hd : decode cc pc = .ok (.invokevirtual idx, 3)) :
    va_Run p l e R s m args below meth c H locs k n mc ms (F0 m pc ls stk) st (Qc (Value.ref b :: av).toArray) free := by
  subst hst
  obtain ⟨h1, h2, h3, h4, h5, h6⟩ := L
  have S : CallFix p m c cc nL s args T1 own := ⟨C.1, C.2.1, C.2.2.1, C.2.2.2.2.2.1, fun w hw => C.2.2.2.2.2.2.2 w hw args⟩
  rcases h1 with h1 | ⟨host, h1⟩
  · exact va_runV S hM ⟨cb_of C h1 h4 h5 h6 hR, C.2.2.2.2.2.2.2 _ h2 args, C.2.2.2.2.2.2.2 _ h3 args⟩ hp rfl hlen hls rfl (lv_room hcat) hd hf
  · exact va_runVN S hM ⟨cn_of C h1 h4 h5 h6 hR, C.2.2.2.2.2.2.2 _ h2 args, C.2.2.2.2.2.2.2 _ h3 args⟩ hp rfl hlen hls rfl (lv_room hcat) hd hf
theorem g_runS (C : Cx p s m meth c κ own cc nL ret) {idx : Nat} {y : MethodName} {cb : ByteArray} {yL : Nat} {yr : Option FieldType} {nA d mc ms : Nat} (L : LSt own idx y cb yL yr nA) {Pc : Array Value → State → Prop} {Qc : Array Value → State → Outcome → State → Prop} {free : Addr → Prop} (hM : Met l y [.code y cb yL yr] (rmv d mc ms) Pc Qc mc ms free) {H : Heap} {locs : List Loc} {ls : Array Slot} {av : List Value} (hp : PreS s H Pc av) (hlen : av.length = nA) (hls : ls.size = nL) (hcat : (st.map fun v => v.category).sum ≤ 8) (hR : d + 9 ≤ R.frames ∧ 219 + yL + 40 * d ≤ R.locals) (hf : k + mc ≤ R.cells ∧ n + ms ≤ R.slots) {stk : List Value} (hst : av.reverse ++ st = stk) (hd : decode cc pc = .ok (.invokestatic idx, 3)) :
    va_Run p l e R s m args below meth c H locs k n mc ms (F0 m pc ls stk) st (Qc av.toArray) free := by
  subst hst
  obtain ⟨h1, h2, h4, h5, h6⟩ := L
  have S : CallFix p m c cc nL s args T1 own := ⟨C.1, C.2.1, C.2.2.1, C.2.2.2.2.2.1, fun w hw => C.2.2.2.2.2.2.2 w hw args⟩
  rcases h1 with h1 | ⟨host, h1⟩
  · exact va_runS S hM ⟨cb_of C h1 h4 h5 h6 hR, C.2.2.2.2.2.2.2 _ h2 args⟩ hp rfl hlen hls rfl (lv_room hcat) hd hf
  · exact va_runSN S hM ⟨cn_of C h1 h4 h5 h6 hR, C.2.2.2.2.2.2.2 _ h2 args, trivial⟩ hp rfl hlen hls rfl (lv_room hcat) hd hf
theorem g_runI (C : Cx p s m meth c κ own cc nL ret) {idx : Nat} {y : MethodName} {cb : ByteArray} {yL : Nat} {nA d mc ms : Nat} (L : LI own idx y cb yL nA) {Pc : Array Value → State → Prop} {Qc : Array Value → State → Outcome → State → Prop} {free : Addr → Prop} (hM : Met l y [.code y cb yL none] (rmv d mc ms) Pc Qc mc ms free) {H : Heap} {locs : List Loc} {ls : Array Slot} {b : Nat} {av : List Value} (hp : PreS s H Pc (.ref b :: av)) (hlen : av.length = nA) (hls : ls.size = nL) (hcat : (st.map fun v => v.category).sum ≤ 8) (hR : d + 9 ≤ R.frames ∧ 219 + yL + 40 * d ≤ R.locals) (hf : k + mc ≤ R.cells ∧ n + ms ≤ R.slots) {stk : List Value} (hst : av.reverse ++ .ref b :: st = stk) (hd : decode cc pc = .ok (.invokespecial idx, 3)) :
    va_Run p l e R s m args below meth c H locs k n mc ms (F0 m pc ls stk) st (Qc (Value.ref b :: av).toArray) free := by
  subst hst
  obtain ⟨h1, h2, h4, h5, h6, h7⟩ := L
  have S : CallFix p m c cc nL s args T1 own := ⟨C.1, C.2.1, C.2.2.1, C.2.2.2.2.2.1, fun w hw => C.2.2.2.2.2.2.2 w hw args⟩
  rcases h1 with h1 | ⟨host, h1⟩
  · exact va_runI S hM ⟨cb_of C h1 h4 h5 h7 hR, h6, C.2.2.2.2.2.2.2 _ h2 args⟩ hp rfl hlen hls rfl (lv_room hcat) hd hf
  · exact va_runIN S hM ⟨cn_of C h1 h4 h5 h7 hR, h6, C.2.2.2.2.2.2.2 _ h2 args⟩ hp rfl hlen hls rfl (lv_room hcat) hd hf
theorem g_recv (C : Cx p s m meth c κ own cc nL ret) {H : Heap} (hP : va_P κ.1 vwCl ws H) (q0 : Nat) {b ci : Nat} {fs : List Value} (he : ws[q0]? = some (b, .inr (ci, fs))) {Y : String} (hc : (vwCl[ci]?).map (fun q => q.1) = some Y) : ∃ cellB : Cell, H[b]? = some cellB ∧ cellB.vm.isStatics = false ∧ s.vm.findClass Y = some cellB.cls := by
  cases h : vwCl[ci]? with
  | none => rw [h] at hc; cases hc
  | some q =>
    rw [h] at hc
    have e : q.1 = Y := Option.some.inj hc
    subst e
    exact va_recv C.2.2.2.2.2.2.1 hP (ci := ci) (q0 := q0) h he
/-! calls of pure methods -/
theorem g_callP (C : Cx p s m meth c κ own cc nL ret) {idx : Nat} {y : MethodName} {cb : ByteArray} {yL : Nat} {yr : Option FieldType} {nA d : Nat} (L : LV own idx y cb yL yr nA) {b : Nat} {av : List Value} {wc : va_W} {post : Int32 → Prop} (hM : CP l y cb yL yr d κ (.ref b :: av) wc post) (q0 : Nat) {ci : Nat} {fs : List Value} (he : ws[q0]? = some (b, .inr (ci, fs))) (hc : (vwCl[ci]?).map (fun q => q.1) = some y.cls) (is : List Nat) (hs : is.filterMap (fun i => ws[i]?) = wc) (hlen : av.length = nA) (hcat : (st.map fun v => v.category).sum ≤ 8) (hR : d + 9 ≤ R.frames ∧ 219 + yL + 40 * d ≤ R.locals) (hf : k ≤ R.cells ∧ n ≤ R.slots) {stk : List Value} (hst : av.reverse ++ .ref b :: st = stk) (hd : decode cc pc = .ok (.invokevirtual idx, 3)) (hp : pc + 3 = pc') (K : ∀ r, post r → G p l e R s m args below meth c κ nL J ws k n Q pc' lv (.int r :: st)) : G p l e R s m args below meth c κ nL J ws k n Q pc lv stk := by
  subst hp
  intro H locs ls hP hJ hl
  have hPc := hP.sub is hs
  exact vp_callSi (va_Run.run (g_runV C L hM ⟨PcP.blind, g_recv C hP q0 he hc, fun U hU hW => ⟨rfl, by rw [hU]; exact hPc, C.2.2.2.2.2.2.warm hW⟩⟩ hlen hl.1 hcat hR hf hst hd)) (fun r hr => K r hr H locs ls hP hJ hl)
theorem g_callPS (C : Cx p s m meth c κ own cc nL ret) {idx : Nat} {y : MethodName} {cb : ByteArray} {yL : Nat} {yr : Option FieldType} {nA d : Nat} (L : LSt own idx y cb yL yr nA) {av : List Value} {wc : va_W} {post : Int32 → Prop} (hM : CP l y cb yL yr d κ av wc post) (is : List Nat) (hs : is.filterMap (fun i => ws[i]?) = wc) (hlen : av.length = nA) (hcat : (st.map fun v => v.category).sum ≤ 8) (hR : d + 9 ≤ R.frames ∧ 219 + yL + 40 * d ≤ R.locals) (hf : k ≤ R.cells ∧ n ≤ R.slots) {stk : List Value} (hst : av.reverse ++ st = stk) (hd : decode cc pc = .ok (.invokestatic idx, 3)) (hp : pc + 3 = pc') (K : ∀ r, post r → G p l e R s m args below meth c κ nL J ws k n Q pc' lv (.int r :: st)) : G p l e R s m args below meth c κ nL J ws k n Q pc lv stk := by
  subst hp
  intro H locs ls hP hJ hl
  have hPc := hP.sub is hs
  exact vp_callSi (va_Run.run (g_runS C L hM ⟨PcP.blind, fun U hU hW => ⟨rfl, by rw [hU]; exact hPc, C.2.2.2.2.2.2.warm hW⟩⟩ hlen hl.1 hcat hR hf hst hd)) (fun r hr => K r hr H locs ls hP hJ hl)
/-! calls of writing methods -/
theorem sub_of {ws wc : va_W} {is : List Nat} (h : is.map (fun i => ws[i]?) = wc.map some) : is.filterMap (fun i => ws[i]?) = wc := by
  have h2 := congrArg (List.filterMap id) h
  rw [List.filterMap_map, List.filterMap_map] at h2
  simpa using h2
theorem g_preM (C : Cx p s m meth c κ own cc nL ret) {H : Heap} {A : Nat → Prop} {locs : List Loc} (hP : va_P κ.1 vwCl ws H) (hJ : JM A s ws H locs) {wc : va_W} {is : List Nat} (hC : is.map (fun i => ws[i]?) = wc.map some) (hn : va_nd is = true) (av : List Value) : ∀ U : State, U.heap = H → s.WarmedH U.vm → PcM κ av wc H.size av.toArray U :=
  fun U hU hW => ⟨rfl, by rw [hU], by rw [hU]; exact hP.sub is (sub_of hC), (hJ.1.sub is hn hC).weaken (fun _ _ _ _ => trivial), C.2.2.2.2.2.2.warm hW⟩
theorem g_callMi (C : Cx p s m meth c κ own cc nL ret) {A : Nat → Prop} (hA : ∀ q, s.heap.size ≤ q → A q) {idx : Nat} {y : MethodName} {cb : ByteArray} {yL : Nat} {yr : Option FieldType} {nA d mc ms : Nat} (L : LV own idx y cb yL yr nA) {b : Nat} {av : List Value} {wc wr : va_W} {post : Int32 → va_W → Prop} (hM : CMi l y cb yL yr d mc ms κ (.ref b :: av) wc post) (q0 : Nat) {ci : Nat} {fs : List Value} (he : ws[q0]? = some (b, .inr (ci, fs))) (hc : (vwCl[ci]?).map (fun q => q.1) = some y.cls) (isC isR : List Nat) (hC : isC.map (fun i => ws[i]?) = wc.map some) (hRr : isR.map (fun i => ws[i]?) = wr.map some) (hnd : va_nd isC = true ∧ va_nd isR = true ∧ ∀ i ∈ isR, i ∉ isC) (hlen : av.length = nA) (hcat : (st.map fun v => v.category).sum ≤ 8) (hR : d + 9 ≤ R.frames ∧ 219 + yL + 40 * d ≤ R.locals) (hf : k + mc ≤ R.cells ∧ n + ms ≤ R.slots) {stk : List Value} (hst : av.reverse ++ .ref b :: st = stk) (hd : decode cc pc = .ok (.invokevirtual idx, 3)) (hp : pc + 3 = pc') (K : ∀ r w1, post r w1 → G p l e R s m args below meth c κ nL (JM A s) (wr ++ w1) (k + mc) (n + ms) Q pc' lv (.int r :: st)) : G p l e R s m args below meth c κ nL (JM A s) ws k n Q pc lv stk := by
  subst hp
  intro H locs ls hP hJ hl
  have hF := va_free hJ.1 hJ.2 hA isC hC
  refine va_calli (g_runV C L (hM H.size) ⟨PcM.blind, g_recv C hP q0 he hc, g_preM C hP hJ hC hnd.1 _⟩ hlen hl.1 hcat hR hf hst hd) hJ.2 (fun q _ h => hF q h) hF (fun r u t H1 locs1 ht hvm hw hB hz1 hk1 hS1 => ?_)
  obtain ⟨hP1, hD1⟩ := va_join hP hJ.1 isC isR hC hRr hnd.2.1 hnd.2.2 hk1 hF (by rw [← ht]; exact hB.1) hB.2
  exact K r u hw H1 locs1 ls hP1 ⟨hD1, hS1⟩ hl
theorem g_callMv (C : Cx p s m meth c κ own cc nL ret) {A : Nat → Prop} (hA : ∀ q, s.heap.size ≤ q → A q) {idx : Nat} {y : MethodName} {cb : ByteArray} {yL : Nat} {yr : Option FieldType} {nA d mc ms : Nat} (L : LV own idx y cb yL yr nA) {b : Nat} {av : List Value} {wc wr : va_W} {post : va_W → Prop} (hM : CMv l y cb yL yr d mc ms κ (.ref b :: av) wc post) (q0 : Nat) {ci : Nat} {fs : List Value} (he : ws[q0]? = some (b, .inr (ci, fs))) (hc : (vwCl[ci]?).map (fun q => q.1) = some y.cls) (isC isR : List Nat) (hC : isC.map (fun i => ws[i]?) = wc.map some) (hRr : isR.map (fun i => ws[i]?) = wr.map some) (hnd : va_nd isC = true ∧ va_nd isR = true ∧ ∀ i ∈ isR, i ∉ isC) (hlen : av.length = nA) (hcat : (st.map fun v => v.category).sum ≤ 8) (hR : d + 9 ≤ R.frames ∧ 219 + yL + 40 * d ≤ R.locals) (hf : k + mc ≤ R.cells ∧ n + ms ≤ R.slots) {stk : List Value} (hst : av.reverse ++ .ref b :: st = stk) (hd : decode cc pc = .ok (.invokevirtual idx, 3)) (hp : pc + 3 = pc') (K : ∀ w1, post w1 → G p l e R s m args below meth c κ nL (JM A s) (wr ++ w1) (k + mc) (n + ms) Q pc' lv st) : G p l e R s m args below meth c κ nL (JM A s) ws k n Q pc lv stk := by
  subst hp
  intro H locs ls hP hJ hl
  have hF := va_free hJ.1 hJ.2 hA isC hC
  refine va_callv (g_runV C L (hM H.size) ⟨PcM.blind, g_recv C hP q0 he hc, g_preM C hP hJ hC hnd.1 _⟩ hlen hl.1 hcat hR hf hst hd) hJ.2 (fun q _ h => hF q h) hF (fun u t H1 locs1 ht hvm hw hB hz1 hk1 hS1 => ?_)
  obtain ⟨hP1, hD1⟩ := va_join hP hJ.1 isC isR hC hRr hnd.2.1 hnd.2.2 hk1 hF (by rw [← ht]; exact hB.1) hB.2
  exact K u hw H1 locs1 ls hP1 ⟨hD1, hS1⟩ hl
theorem g_callMSv (C : Cx p s m meth c κ own cc nL ret) {A : Nat → Prop} (hA : ∀ q, s.heap.size ≤ q → A q) {idx : Nat} {y : MethodName} {cb : ByteArray} {yL : Nat} {yr : Option FieldType} {nA d mc ms : Nat} (L : LSt own idx y cb yL yr nA) {av : List Value} {wc wr : va_W} {post : va_W → Prop} (hM : CMv l y cb yL yr d mc ms κ av wc post) (isC isR : List Nat) (hC : isC.map (fun i => ws[i]?) = wc.map some) (hRr : isR.map (fun i => ws[i]?) = wr.map some) (hnd : va_nd isC = true ∧ va_nd isR = true ∧ ∀ i ∈ isR, i ∉ isC) (hlen : av.length = nA) (hcat : (st.map fun v => v.category).sum ≤ 8) (hR : d + 9 ≤ R.frames ∧ 219 + yL + 40 * d ≤ R.locals) (hf : k + mc ≤ R.cells ∧ n + ms ≤ R.slots) {stk : List Value} (hst : av.reverse ++ st = stk) (hd : decode cc pc = .ok (.invokestatic idx, 3)) (hp : pc + 3 = pc') (K : ∀ w1, post w1 → G p l e R s m args below meth c κ nL (JM A s) (wr ++ w1) (k + mc) (n + ms) Q pc' lv st) : G p l e R s m args below meth c κ nL (JM A s) ws k n Q pc lv stk := by
  subst hp
  intro H locs ls hP hJ hl
  have hF := va_free hJ.1 hJ.2 hA isC hC
  refine va_callv (g_runS C L (hM H.size) ⟨PcM.blind, g_preM C hP hJ hC hnd.1 _⟩ hlen hl.1 hcat hR hf hst hd) hJ.2 (fun q _ h => hF q h) hF (fun u t H1 locs1 ht hvm hw hB hz1 hk1 hS1 => ?_)
  obtain ⟨hP1, hD1⟩ := va_join hP hJ.1 isC isR hC hRr hnd.2.1 hnd.2.2 hk1 hF (by rw [← ht]; exact hB.1) hB.2
  exact K u hw H1 locs1 ls hP1 ⟨hD1, hS1⟩ hl
theorem g_callMSr (C : Cx p s m meth c κ own cc nL ret) {A : Nat → Prop} (hA : ∀ q, s.heap.size ≤ q → A q) {idx : Nat} {y : MethodName} {cb : ByteArray} {yL : Nat} {yr : Option FieldType} {nA d mc ms : Nat} (L : LSt own idx y cb yL yr nA) {av : List Value} {wc wr : va_W} {post : Nat → va_W → Prop} (hM : CMr l y cb yL yr d mc ms κ av wc post) (isC isR : List Nat) (hC : isC.map (fun i => ws[i]?) = wc.map some) (hRr : isR.map (fun i => ws[i]?) = wr.map some) (hnd : va_nd isC = true ∧ va_nd isR = true ∧ ∀ i ∈ isR, i ∉ isC) (hlen : av.length = nA) (hcat : (st.map fun v => v.category).sum ≤ 8) (hR : d + 9 ≤ R.frames ∧ 219 + yL + 40 * d ≤ R.locals) (hf : k + mc ≤ R.cells ∧ n + ms ≤ R.slots) {stk : List Value} (hst : av.reverse ++ st = stk) (hd : decode cc pc = .ok (.invokestatic idx, 3)) (hp : pc + 3 = pc') (K : ∀ a w1, post a w1 → G p l e R s m args below meth c κ nL (JM A s) (wr ++ w1) (k + mc) (n + ms) Q pc' lv (.ref a :: st)) : G p l e R s m args below meth c κ nL (JM A s) ws k n Q pc lv stk := by
  subst hp
  intro H locs ls hP hJ hl
  have hF := va_free hJ.1 hJ.2 hA isC hC
  refine va_callr (g_runS C L (hM H.size) ⟨PcM.blind, g_preM C hP hJ hC hnd.1 _⟩ hlen hl.1 hcat hR hf hst hd) hJ.2 (fun q _ h => hF q h) hF (fun u a t H1 locs1 ht hvm hw hB hz1 hk1 hS1 => ?_)
  obtain ⟨rfl, hB⟩ := hB
  obtain ⟨hP1, hD1⟩ := va_join hP hJ.1 isC isR hC hRr hnd.2.1 hnd.2.2 hk1 hF (by rw [← ht]; exact hB.1) hB.2
  exact K u.1 u.2 hw H1 locs1 ls hP1 ⟨hD1, hS1⟩ hl
theorem g_callMI (C : Cx p s m meth c κ own cc nL ret) {A : Nat → Prop} (hA : ∀ q, s.heap.size ≤ q → A q) {idx : Nat} {y : MethodName} {cb : ByteArray} {yL nA d mc ms : Nat} (L : LI own idx y cb yL nA) {b : Nat} {av : List Value} {wc wr : va_W} {post : va_W → Prop} (hM : CMv l y cb yL none d mc ms κ (.ref b :: av) wc post) (isC isR : List Nat) (hC : isC.map (fun i => ws[i]?) = wc.map some) (hRr : isR.map (fun i => ws[i]?) = wr.map some) (hnd : va_nd isC = true ∧ va_nd isR = true ∧ ∀ i ∈ isR, i ∉ isC) (hlen : av.length = nA) (hcat : (st.map fun v => v.category).sum ≤ 8) (hR : d + 9 ≤ R.frames ∧ 219 + yL + 40 * d ≤ R.locals) (hf : k + mc ≤ R.cells ∧ n + ms ≤ R.slots) {stk : List Value} (hst : av.reverse ++ .ref b :: st = stk) (hd : decode cc pc = .ok (.invokespecial idx, 3)) (hp : pc + 3 = pc') (K : ∀ w1, post w1 → G p l e R s m args below meth c κ nL (JM A s) (wr ++ w1) (k + mc) (n + ms) Q pc' lv st) : G p l e R s m args below meth c κ nL (JM A s) ws k n Q pc lv stk := by
  subst hp
  intro H locs ls hP hJ hl
  have hF := va_free hJ.1 hJ.2 hA isC hC
  refine va_callv (g_runI C L (hM H.size) ⟨PcM.blind, g_preM C hP hJ hC hnd.1 _⟩ hlen hl.1 hcat hR hf hst hd) hJ.2 (fun q _ h => hF q h) hF (fun u t H1 locs1 ht hvm hw hB hz1 hk1 hS1 => ?_)
  obtain ⟨hP1, hD1⟩ := va_join hP hJ.1 isC isR hC hRr hnd.2.1 hnd.2.2 hk1 hF (by rw [← ht]; exact hB.1) hB.2
  exact K u hw H1 locs1 ls hP1 ⟨hD1, hS1⟩ hl
end GR
