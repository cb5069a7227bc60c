/-! ===== arrays of references, arrays of arrays, Object's constructor, copies, a call by an abstract name ===== -/
theorem wq_over : Cond.arrayOver (.object RX2) ∈ T1 := (wdT 150 (by decide +kernel) (by decide +kernel))
theorem wq_overI : Cond.arrayOver (.array .int) ∈ T1 := (wdT 127 (by decide +kernel) (by decide +kernel))
theorem wq_ph : Cond.castable RX3 RX2 ∈ T1 := (wdT 668 (by decide +kernel) (by decide +kernel))
theorem wq_sp : Cond.castable RX6 RX2 ∈ T1 := (wdT 667 (by decide +kernel) (by decide +kernel))
section GR
variable {p : Program} {l : Launch} {e : Env} {R : Room} {s : State} {m : MethodId} {args : Array Value} {below : List Frame} {meth : Method} {c : Code} {κ : KK} {own : String} {cc : ByteArray} {nL : Nat} {ret : Option FieldType}
variable {J : JJ} {ws : va_W} {k n : Nat} {Q : State → Prop} {pc pc' : Nat} {lv : List (Nat × Value)} {st : List Value}
theorem g_aastN {A : Nat → Prop} (C : Cx p s m meth c κ own cc nL ret) (q0 : Nat) {a z : Nat} {f : Nat → Option Nat} (he : ws[q0]? = some (a, .inl (κ.2 2, z, .inr (.inr (.inr (.inr f)))))) (j : Nat) (hj : j < z) (hz : z < 2 ^ 31) {ws' : va_W} (hw : ws.set q0 (a, .inl (κ.2 2, z, .inr (.inr (.inr (.inr (va_up f j none)))))) = ws') (hd : decode cc pc = .ok (.aastore, 1)) (hp : pc + 1 = pc') (K : G p l e R s m args below meth c κ nL (JM A s) ws' k n Q pc' lv st) : G p l e R s m args below meth c κ nL (JM A s) ws k n Q pc lv (.null :: .int (nI j) :: .ref a :: st) := by
  subst hp; subst hw
  obtain ⟨hx, hb, -, -, -, hown, hK, hE⟩ := C
  refine fun H locs ls hP hJ hl => va_astqN hx hb hK hP hJ.1 hJ.2 q0 2 he rfl (vp_in_nI hj hz) hd (fun H1 locs1 hP1 hD1 hS1 => ?_)
  rw [nI_clamp (Nat.lt_trans hj hz)] at hP1 hD1
  exact K H1 locs1 ls hP1 ⟨hD1, hS1⟩ hl
theorem g_aastO {A : Nat → Prop} (C : Cx p s m meth c κ own cc nL ret) (q0 qk : Nat) {a z v ci : Nat} {vs : List Value} {r : vw_C} {f : Nat → Option Nat} (hca : Cond.castable r.1 RX2 ∈ T1) (he : ws[q0]? = some (a, .inl (κ.2 2, z, .inr (.inr (.inr (.inr f)))))) (hv : ws[qk]? = some (v, .inr (ci, vs))) (hc : vwCl[ci]? = some r) (j : Nat) (hj : j < z) (hz : z < 2 ^ 31) {ws' : va_W} (hw : ws.set q0 (a, .inl (κ.2 2, z, .inr (.inr (.inr (.inr (va_up f j (some v))))))) = ws') (hd : decode cc pc = .ok (.aastore, 1)) (hp : pc + 1 = pc') (K : G p l e R s m args below meth c κ nL (JM A s) ws' k n Q pc' lv st) : G p l e R s m args below meth c κ nL (JM A s) ws k n Q pc lv (.ref v :: .int (nI j) :: .ref a :: st) := by
  subst hp; subst hw
  obtain ⟨hx, hb, -, -, -, hown, hK, hE⟩ := C
  refine fun H locs ls hP hJ hl => va_astqO hx hb hK hP hJ.1 hJ.2 q0 2 qk ci he rfl (va_Nw.of rfl (hE _ hca args)) hv hc (vp_in_nI hj hz) hd (fun H1 locs1 hP1 hD1 hS1 => ?_)
  rw [nI_clamp (Nat.lt_trans hj hz)] at hP1 hD1
  exact K H1 locs1 ls hP1 ⟨hD1, hS1⟩ hl
theorem g_anewE {A : Nat → Prop} (C : Cx p s m meth c κ own cc nL ret) (hA : ∀ q, s.heap.size ≤ q → A q) {idx : Nat} (hw : Cond.classLink own idx RX2 ∈ T1) {z : Nat} (hz : z * 4 ≤ 536870912) (h1 : k + 1 ≤ R.cells) (h2 : n + z ≤ R.slots) (hd : decode cc pc = .ok (.anewarray idx, 3)) (hp : pc + 3 = pc') (K : ∀ q : Nat, G p l e R s m args below meth c κ nL (JM A s) (ws ++ [(q, .inl (κ.2 2, z, .inr (.inr (.inr (.inr (fun _ => none))))))]) (k + 1) (n + z) Q pc' lv (.ref q :: st)) : G p l e R s m args below meth c κ nL (JM A s) ws k n Q pc lv (.int (nI z) :: st) := by
  subst hp
  obtain ⟨hx, hb, -, -, -, hown, hK, hE⟩ := C
  have hz2 : z < 2 ^ 31 := by omega
  refine fun H locs ls hP hJ hl => va_newq hx hb hown (hE _ hw args) (va_AO.of (hE _ wq_over args)) hK hP hJ.1 hJ.2 hA (nI_pos hz2) (nI_clamp hz2) hz h1 h2 hd (fun q cA H1 hK1 hP1 hD1 hS1 => ?_)
  have e : cA = κ.2 2 := by
    obtain ⟨_, _, -, -, -, b1⟩ := (hK1.2 5 _ rfl).2
    obtain ⟨_, _, -, -, -, b2⟩ := (hK.2 2 _ rfl).2
    exact Option.some.inj (b1.symm.trans b2)
  subst e
  exact K q H1 locs ls hP1 ⟨hD1, hS1⟩ hl
theorem g_objInit (C : Cx p s m meth c κ own cc nL ret) {idx : Nat} (h1 : Cond.methodLink own idx Lib.objectInit ∈ T1) (h2 : Cond.instanceMethod Lib.objectInit ∈ T1) (h3 : Cond.code Lib.objectInit ⟨#[0xb1]⟩ 1 none ∈ T1) {a : Nat} (hf : 1 ≤ R.frames) (hl0 : (st.map fun v => v.category).sum + 12 ≤ R.locals) (hd : decode cc pc = .ok (.invokespecial idx, 3)) (hp : pc + 3 = pc') (K : G p l e R s m args below meth c κ nL J ws k n Q pc' lv st) : G p l e R s m args below meth c κ nL J ws k n Q pc lv (.ref a :: st) := by
  subst hp
  exact fun H locs ls hP hJ hl => W.objInit C.1 C.2.1 C.2.2.2.2.2.1 (C.2.2.2.2.2.2.2 _ h1 args) (C.2.2.2.2.2.2.2 _ h2 args) (C.2.2.2.2.2.2.2 _ h3 args) (g := F0 m pc ls (.ref a :: st)) rfl (hl.1.trans C.2.2.1.symm) rfl hd hf (by show 2 * 0 + _ + 12 ≤ _; omega) (K H locs ls hP hJ hl)
/-- the same cell, by another function that says the same of its elements -/
theorem cell_same {cA : ClassId} {z : Nat} {f f' : Nat → Int32} (h : ∀ j, j < z → f j = f' j) : vp_cell cA (z, .inl f) = vp_cell cA (z, .inl f') := by
  show arrV cA z (fun j => Value.int (f j)) = arrV cA z (fun j => Value.int (f' j))
  unfold arrV
  congr 1
  apply Array.ext
  · simp
  · intro i h1 h2
    simp only [Array.size_ofFn] at h1
    simp [h i h1]
theorem va_P.same {D : va_G} {cl : List vw_C} {H : Heap} {q0 a z : Nat} {cA : ClassId} {f f' : Nat → Int32} (hP : va_P D cl ws H) (he : ws[q0]? = some (a, .inl (cA, z, .inl f))) (h : ∀ j, j < z → f j = f' j) : va_P D cl (ws.set q0 (a, .inl (cA, z, .inl f'))) H := by
  intro k q hk
  rw [List.getElem?_set] at hk
  split at hk
  · split at hk
    · have e : (a, Sum.inl (cA, z, Sum.inl f')) = q := Option.some.inj hk
      subst e
      show H[a]? = some (vp_cell cA (z, .inl f'))
      rw [← cell_same h]
      exact hP q0 _ he
    · cases hk
  · exact hP k q hk
theorem g_same {A : Nat → Prop} (q0 : Nat) {a z : Nat} {cA : ClassId} {f : Nat → Int32} (f' : Nat → Int32) (he : ws[q0]? = some (a, .inl (cA, z, .inl f))) (h : ∀ j, j < z → f j = f' j) {ws' : va_W} (hw : ws.set q0 (a, .inl (cA, z, .inl f')) = ws') (K : G p l e R s m args below meth c κ nL (JM A s) ws' k n Q pc lv st) : G p l e R s m args below meth c κ nL (JM A s) ws k n Q pc lv st := by
  subst hw
  exact fun H locs ls hP hJ hl => K H locs ls (hP.same he h) ⟨hJ.1.set he, hJ.2⟩ hl
theorem g_clone {A : Nat → Prop} (C : Cx p s m meth c κ own cc nL ret) (hA : ∀ q, s.heap.size ≤ q → A q) {idx : Nat} (h1 : Cond.methodLink own idx ⟨"[I", "clone", "()Ljava/lang/Object;"⟩ ∈ T1) (h2 : Cond.sameMethod "[I" "java/lang/Object" "clone" "()Ljava/lang/Object;" ∈ T1) (h3 : Cond.native ⟨"java/lang/Object", "clone", "()Ljava/lang/Object;"⟩ ∈ T1) (h4 : Cond.instanceMethod ⟨"java/lang/Object", "clone", "()Ljava/lang/Object;"⟩ ∈ T1) (h5 : Cond.selects "[I" ⟨"[I", "clone", "()Ljava/lang/Object;"⟩ ⟨"java/lang/Object", "clone", "()Ljava/lang/Object;"⟩ ∈ T1) (h6 : Cond.castable "[I" "java/lang/Cloneable" ∈ T1) (q0 : Nat) {a z : Nat} {f : Nat → Int32} (he : ws[q0]? = some (a, .inl (κ.2 0, z, .inl f))) (hf : 1 ≤ R.frames) (hl0 : (st.map fun v => v.category).sum + 14 ≤ R.locals) (hk : k + 1 ≤ R.cells) (hn : n + z ≤ R.slots) (hd : decode cc pc = .ok (.invokevirtual idx, 3)) (hp : pc + 3 = pc') (K : ∀ q : Nat, G p l e R s m args below meth c κ nL (JM A s) (ws ++ [(q, .inl (κ.2 0, z, .inl f))]) (k + 1) (n + z) Q pc' lv (.ref q :: st)) : G p l e R s m args below meth c κ nL (JM A s) ws k n Q pc lv (.ref a :: st) := by
  subst hp
  obtain ⟨hx, hb, hml, -, -, hown, hK, hE⟩ := C
  refine fun H locs ls hP hJ hl => va_clone hx hb (hml.trans hl.1.symm) hown (hE _ h1 args) (hE _ h2 args) (hE _ h3 args) (hE _ h4 args) (hE _ h5 args) (va_Nw.of rfl (hE _ h6 args)) hK hP hJ.1 hJ.2 hA q0 0 he rfl (hK.2 0 _ rfl).2 (fun i v hv => ?_) hf hl0 hk hn hd (fun q H1 hK1 hP1 hD1 hS1 => K q H1 locs ls hP1 ⟨hD1, hS1⟩ hl)
  have h9 : (arrV (κ.2 0) z (fun j => Value.int (f j))).slots[i]? = some v := hv
  by_cases hi : i < z
  · rw [arrV_read _ _ hi] at h9
    cases h9
    rfl
  · rw [Array.getElem?_eq_none (by rw [arrV_size]; omega)] at h9
    cases h9
theorem g_castI (C : Cx p s m meth c κ own cc nL ret) {idx : Nat} (h1 : Cond.classLink own idx "[I" ∈ T1) (q0 : Nat) {a z : Nat} {f : Nat → Int32} (he : ws[q0]? = some (a, .inl (κ.2 0, z, .inl f))) (hd : decode cc pc = .ok (.checkcast idx, 3)) (hp : pc + 3 = pc') (K : G p l e R s m args below meth c κ nL J ws k n Q pc' lv (.ref a :: st)) : G p l e R s m args below meth c κ nL J ws k n Q pc lv (.ref a :: st) := by
  subst hp
  obtain ⟨hx, hb, -, -, -, hown, hK, hE⟩ := C
  exact fun H locs ls hP hJ hl => va_castA hx hb hown (hE _ h1 args) hP q0 he (hK.2 0 _ rfl).2 hd (K H locs ls hP hJ hl)
theorem g_copyI {A : Nat → Prop} (C : Cx p s m meth c κ own cc nL ret) {idx : Nat} (h1 : Cond.methodLink own idx arraycopyName ∈ T1) (h2 : Cond.native arraycopyName ∈ T1) (h3 : Cond.static arraycopyName ∈ T1) (h4 : Cond.initialized "java/lang/System" ∈ T1) (q0 q1 : Nat) {a0 a z0 z1 : Nat} {f g : Nat → Int32} (he0 : ws[q0]? = some (a0, .inl (κ.2 0, z0, .inl f))) (he1 : ws[q1]? = some (a, .inl (κ.2 0, z1, .inl g))) {t : Nat} (ht0 : t ≤ z0) (ht1 : t ≤ z1) (ht : t < 2 ^ 31) (hf : 1 ≤ R.frames) (hl0 : (st.map fun v => v.category).sum + (nativeFrameWords "java/lang/System" "arraycopy" 5 + 11) ≤ R.locals) {ws' : va_W} (hw : ws.set q1 (a, .inl (κ.2 0, z1, .inl (va_cpy f g 0 0 t))) = ws') (hd : decode cc pc = .ok (.invokestatic idx, 3)) (hp : pc + 3 = pc') (K : G p l e R s m args below meth c κ nL (JM A s) ws' k n Q pc' lv st) : G p l e R s m args below meth c κ nL (JM A s) ws k n Q pc lv (.int (nI t) :: .int (nI 0) :: .ref a :: .int (nI 0) :: .ref a0 :: st) := by
  subst hp; subst hw
  obtain ⟨hx, hb, hml, -, -, hown, hK, hE⟩ := C
  have e0 : (nI 0).toNatClampNeg = 0 := by decide
  have et : (nI t).toNatClampNeg = t := nI_clamp ht
  refine fun H locs ls hP hJ hl => va_copyi hx hb (hml.trans hl.1.symm) hown (hE _ h1 args) (hE _ h2 args) (hE _ h3 args) (hE _ h4 args) hK hP hJ.1 hJ.2 q0 q1 0 0 he0 he1 rfl rfl rfl (by decide) (by decide) (nI_pos ht) (by rw [e0, et]; omega) (by rw [e0, et]; omega) (fun _ _ => rfl) hf hl0 hd (fun H1 locs1 hP1 hD1 hS1 => ?_)
  rw [e0, et] at hP1 hD1
  exact K H1 locs1 ls hP1 ⟨hD1, hS1⟩ hl
/-- a call by the name of an abstract method -/
theorem g_fAv {A : Nat → Prop} (C : Cx p s m meth c κ own cc nL ret) (hA : ∀ q, s.heap.size ≤ q → A q) {idx : Nat} {x y : MethodName} {owner CN : String} {cb : ByteArray} {yL : Nat} {yr : Option FieldType} {nA d mc ms : Nat} (hG : GoodIn T1 (va_wsU own idx CN owner x y [.code y cb yL yr])) (hz : Cond.declares ⟨owner, x.name, x.desc⟩ ∈ T1) (ho : owner ≠ "java/lang/invoke/MethodHandle" ∧ owner ≠ "java/lang/invoke/VarHandle" ∧ (parseMethodDescriptor x.desc).map (fun d => d.parameters.length) = some nA) {b : Nat} {av : List Value} {wc wr : va_W} {post : va_W → Prop} (hM : CMv l y cb yL yr d mc ms κ (.ref b :: av) wc post) (hp0 : ws.Perm (wr ++ wc)) (q0 : Nat) {ci : Nat} {fs : List Value} (he : wc[q0]? = some (b, .inr (ci, fs))) (hc : (vwCl[ci]?).map (fun q => q.1) = some CN) (hlen : av.length = nA) (hcat : (st.map fun v => v.category).sum ≤ 8) (hR : d + 9 ≤ R.frames ∧ 219 + yL + 40 * d ≤ R.locals) (hf : k + mc ≤ R.cells ∧ n + ms ≤ R.slots) {stk : List Value} (hst : av.reverse ++ .ref b :: st = stk) (hd : decode cc pc = .ok (.invokevirtual idx, 3)) (hp : pc + 3 = pc') (K : ∀ w1, post w1 → G p l e R s m args below meth c κ nL (JM A s) (wr ++ w1) (k + mc) (n + ms) Q pc' lv st) : G p l e R s m args below meth c κ nL (JM A s) ws k n Q pc lv stk := by
  refine g_perm hp0 ?_
  subst hp; subst hst
  intro H locs ls hP hJ hl
  have hC := idx_C wr wc
  have hnd := idx_nd wr wc
  have hF := va_free hJ.1 hJ.2 hA _ hC
  have S : CallFix p m c cc nL s args T1 own := ⟨C.1, C.2.1, C.2.2.1, C.2.2.2.2.2.1, fun w hw => C.2.2.2.2.2.2.2 w hw args⟩
  have cw : va_CU R s args own CN owner idx x y cb yL yr [.code y cb yL yr] (rmv d mc ms) mc ms nA := va_cwA nA (fun w hw => C.2.2.2.2.2.2.2 w hw args) hG rfl rfl rfl (va_Nw.of rfl (C.2.2.2.2.2.2.2 _ hz args)) ho ⟨by show d + 8 + 1 ≤ _; omega, by show 8 + (yL + 11) + (200 + 40 * d) ≤ _; omega⟩
  have hrec : ∃ cellB : Cell, H[b]? = some cellB ∧ cellB.vm.isStatics = false ∧ s.vm.findClass CN = some cellB.cls := g_recv C hP _ (idx_at he) hc
  have hrun : va_Run p l e R s m args below meth c H locs k n mc ms (F0 m pc ls (av.reverse ++ .ref b :: st)) st (QMv κ wc H.size post (Value.ref b :: av).toArray) (va_A wc H.size) :=
    va_runU S (hM H.size) cw ⟨PcM.blind, hrec, g_preM C hP hJ hC hnd.1 _⟩ rfl hlen hl.1 rfl (lv_room hcat) hd hf
  refine va_callv hrun hJ.2 (fun q _ h => hF q h) hF (fun u t H1 locs1 ht hvm hw hB hz1 hk1 hS1 => ?_)
  obtain ⟨hP1, hD1⟩ := va_join hP hJ.1 _ _ hC (idx_R wr wc) hnd.2.1 hnd.2.2 hk1 hF (by rw [← ht]; exact hB.1) hB.2
  exact K u hw H1 locs1 ls hP1 ⟨hD1, hS1⟩ hl
theorem g_mna {A : Nat → Prop} (C : Cx p s m meth c κ own cc nL ret) (hA : ∀ q, s.heap.size ≤ q → A q) {idx : Nat} (h1 : Cond.classLink own idx "[[I" ∈ T1) (h2 : Cond.arrayClass .int ∈ T1) {z t : Nat} (hz : z * 4 ≤ 536870912) (ht : t * 4 ≤ 536870912) (hk : k + (1 + z) ≤ R.cells) (hn : n + (z + z * t) ≤ R.slots) (hd : decode cc pc = .ok (.multianewarray idx 2, 4)) (hp : pc + 4 = pc') (K : ∀ (q : Nat) (r : Nat → Nat), G p l e R s m args below meth c κ nL (JM A s) ((ws ++ [(q, .inl (κ.2 3, z, .inr (.inr (.inr (.inr (fun i => if i < z then some (r i) else none))))))]) ++ (List.range z).map (fun i => (r i, .inl (κ.2 0, t, .inl (fun _ => 0))))) (k + 1 + z) (n + z + z * t) Q pc' lv (.ref q :: st)) : G p l e R s m args below meth c κ nL (JM A s) ws k n Q pc lv (.int (nI t) :: .int (nI z) :: st) := by
  subst hp
  obtain ⟨hx, hb, -, -, -, hown, hK, hE⟩ := C
  have hz2 : z < 2 ^ 31 := by omega
  have ht2 : t < 2 ^ 31 := by omega
  intro H locs ls hP hJ hl
  have e0 : ws = ws ++ va_pl [] (fun _ => (.inl (κ.2 0, t, .inl (fun _ => 0)) : va_E)) := (List.append_nil ws).symm
  refine va_mna (X := ws) (L := []) (f := fun _ => (.inl (κ.2 0, t, .inl (fun _ => 0)) : va_E)) (ty := .int) (cy := κ.2 0) (z := (t, .inl (fun _ => 0))) hx hb hown (hE _ h1 args) (va_AOA.of (hE _ wq_overI args)) (hE _ h2 args) (hK.2 0 _ rfl).2 hK (by rw [← e0]; exact hP) (by rw [← e0]; exact hJ.1) hJ.2 hA (nI_pos hz2) (nI_pos ht2) (nI_clamp hz2) (nI_clamp ht2) hz (by show t * 4 ≤ _; exact ht) (by omega) rfl rfl hk hn (fun c => by show ({ cls := c, slots := Array.replicate t (defaultValue .int), vm := .none } : Cell) = arrV c t (fun _ => Value.int 0); rw [← arrV_new]; rfl) hd (fun q r cA H1 hinj hnot hK1 hP1 hD1 hS1 => ?_)
  have e : cA = κ.2 3 := tys_one (fun t h => by cases h) (hK1.2 5 _ rfl).2 (hK.2 3 _ rfl).2
  subst e
  have er : va_pl ([] ++ (List.range z).map r) (vr_up (fun _ => (.inl (κ.2 0, t, .inl (fun _ => 0)) : va_E)) ((List.range z).map r) (.inl (κ.2 0, (t, .inl (fun _ => 0))))) = (List.range z).map (fun i => (r i, (.inl (κ.2 0, t, .inl (fun _ => 0)) : va_E))) := by
    unfold va_pl
    rw [List.nil_append, List.map_map]
    apply List.map_congr_left
    intro i hi
    show (r i, vr_up _ _ _ (r i)) = _
    rw [vr_up_in (List.mem_map.mpr ⟨i, hi, rfl⟩)]
  rw [er] at hP1 hD1
  exact K q r H1 locs ls hP1 ⟨hD1, hS1⟩ hl
end GR
