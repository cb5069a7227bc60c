/-! ===== a world's order is nothing: calls with a frame of cells that aren't in sight ===== -/
theorem pw_mem {ws : va_W} {P : Nat × va_E → Prop} : (∀ (k : Nat) (q : Nat × va_E), ws[k]? = some q → P q) ↔ ∀ q ∈ ws, P q :=
  ⟨fun h q hq => by obtain ⟨k, hk⟩ := List.getElem?_of_mem hq; exact h k q hk, fun h k q hk => h q (List.mem_of_getElem? hk)⟩
theorem pw_nd : ∀ {ws : va_W}, (∀ (i j : Nat) (p q : Nat × va_E), ws[i]? = some p → ws[j]? = some q → p.1 = q.1 → i = j) ↔ (ws.map Prod.fst).Nodup
  | [] => ⟨fun _ => List.nodup_nil, fun _ i j p q h => by cases h⟩
  | a :: w => by
    have ih := pw_nd (ws := w)
    rw [List.map_cons, List.nodup_cons]
    constructor
    · intro h
      refine ⟨fun hm => ?_, ih.mp (fun i j p q hi hj hq => ?_)⟩
      · obtain ⟨b, hb, e⟩ := List.mem_map.mp hm
        obtain ⟨k, hk⟩ := List.getElem?_of_mem hb
        have := h 0 (k + 1) a b rfl hk e.symm
        omega
      · have := h (i + 1) (j + 1) p q hi hj hq
        omega
    · rintro ⟨h1, h2⟩ i j p q hi hj hq
      have h3 := ih.mpr h2
      cases i with
      | zero =>
        cases j with
        | zero => rfl
        | succ j =>
          have e : a = p := Option.some.inj hi
          subst e
          exact absurd (List.mem_map.mpr ⟨q, List.mem_of_getElem? (show w[j]? = some q from hj), hq.symm⟩) h1
      | succ i =>
        cases j with
        | zero =>
          have e : a = q := Option.some.inj hj
          subst e
          exact absurd (List.mem_map.mpr ⟨p, List.mem_of_getElem? (show w[i]? = some p from hi), hq⟩) h1
        | succ j => rw [h3 i j p q hi hj hq]
theorem va_D.iff {A : Nat → Prop} {ws : va_W} : va_D A ws ↔ (ws.map Prod.fst).Nodup ∧ ∀ q ∈ ws, A q.1 := and_congr pw_nd pw_mem
theorem va_P.iff {D : va_G} {cl : List vw_C} {ws : va_W} {H : Heap} : va_P D cl ws H ↔ ∀ q ∈ ws, va_at D cl q H := pw_mem
theorem va_D.perm {A : Nat → Prop} {ws ws' : va_W} (h : va_D A ws) (hp : ws.Perm ws') : va_D A ws' := by
  rw [va_D.iff] at h ⊢
  exact ⟨(hp.map Prod.fst).nodup_iff.mp h.1, fun q hq => h.2 q (hp.mem_iff.mpr hq)⟩
theorem va_P.perm {D : va_G} {cl : List vw_C} {ws ws' : va_W} {H : Heap} (h : va_P D cl ws H) (hp : ws.Perm ws') : va_P D cl ws' H := by
  rw [va_P.iff] at h ⊢
  exact fun q hq => h q (hp.mem_iff.mpr hq)
theorem va_P.of_sub {D : va_G} {cl : List vw_C} {ws ws' : va_W} {H : Heap} (h : va_P D cl ws H) (hp : ∀ q ∈ ws', q ∈ ws) : va_P D cl ws' H := by
  rw [va_P.iff] at h ⊢
  exact fun q hq => h q (hp q hq)
theorem va_A.of_sub {ws ws' : va_W} {sz : Nat} (hp : ∀ q ∈ ws', q ∈ ws) {a : Nat} (h : va_A ws' sz a) : va_A ws sz a := by
  rcases h with ⟨k, e, h⟩ | h
  · obtain ⟨j, hj⟩ := List.getElem?_of_mem (hp _ (List.mem_of_getElem? h))
    exact Or.inl ⟨j, e, hj⟩
  · exact Or.inr h
/-- a concrete list in another order -/
theorem pm_of {X Y : va_W} (z : Nat) (is : List Nat) (hz : X.length = z) (hi : is.isPerm (List.range z) = true) (h : is.map (fun i => X[i]?) = Y.map some) : X.Perm Y := by
  subst hz
  have h1 : is.Perm (List.range X.length) := List.isPerm_iff.mp hi
  have h2 : (List.range X.length).map (fun i => X[i]?) = X.map some := by
    apply List.ext_getElem?
    intro k
    rw [List.getElem?_map, List.getElem?_map]
    by_cases hk : k < X.length
    · rw [List.getElem?_range hk, List.getElem?_eq_getElem hk]; simp [hk]
    · rw [List.getElem?_eq_none (by rw [List.length_range]; omega), List.getElem?_eq_none (by omega)]; rfl
  have h3 := (h1.map (fun i => X[i]?)).symm
  rw [h, h2] at h3
  have h4 := h3.filterMap id
  rw [List.filterMap_map, List.filterMap_map] at h4
  simpa using h4
theorem pm_tail {X R C es : va_W} (h : X.Perm (R ++ C)) : (X ++ es).Perm ((R ++ es) ++ C) := by
  refine (h.append_right es).trans ?_
  rw [List.append_assoc, List.append_assoc]
  exact List.Perm.append_left R List.perm_append_comm
theorem pm_tailC {X R C es : va_W} (h : X.Perm (R ++ C)) : (X ++ es).Perm (R ++ (C ++ es)) := by
  refine (h.append_right es).trans ?_
  rw [List.append_assoc]
theorem idx_C (wr wc : va_W) : ((List.range wc.length).map (fun i => wr.length + i)).map (fun i => (wr ++ wc)[i]?) = wc.map some := by
  rw [List.map_map]
  apply List.ext_getElem?
  intro k
  rw [List.getElem?_map, List.getElem?_map]
  by_cases hk : k < wc.length
  · rw [List.getElem?_range hk, List.getElem?_eq_getElem hk]
    simp [hk]
  · rw [List.getElem?_eq_none (by rw [List.length_range]; omega), List.getElem?_eq_none (by omega)]; rfl
theorem idx_R (wr wc : va_W) : (List.range wr.length).map (fun i => (wr ++ wc)[i]?) = wr.map some := by
  apply List.ext_getElem?
  intro k
  rw [List.getElem?_map, List.getElem?_map]
  by_cases hk : k < wr.length
  · rw [List.getElem?_range hk, List.getElem?_eq_getElem hk]
    simp [hk, List.getElem?_append_left]
  · rw [List.getElem?_eq_none (by rw [List.length_range]; omega), List.getElem?_eq_none (by omega)]; rfl
theorem va_nd_of : ∀ {l : List Nat}, l.Nodup → va_nd l = true
  | [], _ => rfl
  | a :: l, h => by
    rw [List.nodup_cons] at h
    simp [va_nd, h.1, va_nd_of h.2]
theorem idx_nd (wr wc : va_W) : va_nd ((List.range wc.length).map (fun i => wr.length + i)) = true ∧ va_nd (List.range wr.length) = true ∧ ∀ i ∈ List.range wr.length, i ∉ (List.range wc.length).map (fun i => wr.length + i) := by
  refine ⟨va_nd_of ?_, va_nd_of List.nodup_range, fun i hi hj => ?_⟩
  · exact List.pairwise_map.mpr (List.nodup_range.imp (fun h q => h (by omega)))
  · obtain ⟨j, hj, e⟩ := List.mem_map.mp hj
    have := List.mem_range.mp hi
    omega
theorem idx_at {wr wc : va_W} {q0 : Nat} {x : Nat × va_E} (h : wc[q0]? = some x) : (wr ++ wc)[wr.length + q0]? = some x := by
  rw [List.getElem?_append_right (Nat.le_add_right _ _), Nat.add_sub_cancel_left]
  exact h
/-! contracts with a frame, and with less said -/
section FRM
variable {l : Launch} {y : MethodName} {cb : ByteArray} {yL : Nat} {yr : Option FieldType} {d mc ms : Nat} {κ : KK} {av : List Value} {ws wc wr : va_W} {es es' : String → Prop}
theorem fr_pre {sz : Nat} {a : Array Value} {U : State} (hp : ws.Perm (wr ++ wc)) (h : PcM κ av ws sz a U) : PcM κ av wc sz a U := by
  obtain ⟨h1, h2, h3, h4, h5⟩ := h
  refine ⟨h1, h2, (h3.perm hp).of_sub (fun q hq => List.mem_append_right _ hq), ?_, h5⟩
  exact (h4.perm hp).sub _ (idx_nd wr wc).1 (idx_C wr wc)
theorem fr_preX {sz : Nat} {a : Array Value} {U : State} (hp : ws.Perm (wr ++ wc)) (h : PcX κ av ws sz a U) : PcX κ av wc sz a U := by
  obtain ⟨h1, h2, h3, h4, h5, h6, h7⟩ := h
  have hs : ∀ q ∈ wc, q ∈ ws := fun q hq => hp.mem_iff.mpr (List.mem_append_right _ hq)
  refine ⟨h1, h2, h3.of_sub hs, (h4.perm hp).sub _ (idx_nd wr wc).1 (idx_C wr wc), h5, h6, ?_⟩
  exact ⟨h7.1.narrow (fun q hq => va_A.of_sub hs hq), h7.2.narrow (fun q hq => va_A.of_sub hs hq)⟩
theorem fr_join {sz : Nat} {a : Array Value} {st t : State} {w1 : va_W} (hp : ws.Perm (wr ++ wc)) (h : PcM κ av ws sz a st) (hF : va_F (va_A wc sz) st t) (hP : va_P κ.1 vwCl w1 t.heap) (hD : va_D (va_A wc sz) w1) : va_P κ.1 vwCl (wr ++ w1) t.heap ∧ va_D (va_A ws sz) (wr ++ w1) := by
  obtain ⟨h1, h2, h3, h4, h5⟩ := h
  subst h2
  have hs : ∀ q ∈ wc, q ∈ ws := fun q hq => hp.mem_iff.mpr (List.mem_append_right _ hq)
  exact va_join (A0 := va_A ws st.heap.size) (h3.perm hp) ((h4.self).perm hp) _ _ (idx_C wr wc) (idx_R wr wc) (idx_nd wr wc).2.1 (idx_nd wr wc).2.2 hF.2 (fun q hq => va_A.of_sub hs hq) hP hD
theorem va_F.of_sub {sz : Nat} {st t : State} (hs : ∀ q ∈ wc, q ∈ ws) (h : va_F (va_A wc sz) st t) : va_F (va_A ws sz) st t := ⟨h.1, fun q h1 h2 => h.2 q h1 (fun h3 => h2 (va_A.of_sub hs h3))⟩
theorem pm_sub (hp : ws.Perm (wr ++ wc)) : ∀ q ∈ wc, q ∈ ws := fun _ hq => hp.mem_iff.mpr (List.mem_append_right _ hq)
theorem CMi.frame {post : Int32 → va_W → Prop} {post' : Int32 → va_W → Prop} (hM : CMi l y cb yL yr d mc ms κ av wc post) (hp : ws.Perm (wr ++ wc)) (hq : ∀ r w1, post r w1 → post' r (wr ++ w1)) : CMi l y cb yL yr d mc ms κ av ws post' := by
  intro sz
  refine MetFree.mono (hM sz) (fun a s h => fr_pre hp h) (fun _ _ _ _ _ _ => trivial) (fun a st o t hpre h => ?_)
  obtain ⟨⟨⟨r, u, e, h1, h2, h3⟩, h4⟩, L, h5, h6⟩ := h
  obtain ⟨j1, j2⟩ := fr_join hp hpre h4 h2 h3
  exact ⟨⟨⟨r, _, e, hq r u h1, j1, j2⟩, h4.of_sub (pm_sub hp)⟩, L, h5, fun q hq => va_A.of_sub (pm_sub hp) (h6 q hq)⟩
theorem CMv.frame {post : va_W → Prop} {post' : va_W → Prop} (hM : CMv l y cb yL yr d mc ms κ av wc post) (hp : ws.Perm (wr ++ wc)) (hq : ∀ w1, post w1 → post' (wr ++ w1)) : CMv l y cb yL yr d mc ms κ av ws post' := by
  intro sz
  refine MetFree.mono (hM sz) (fun a s h => fr_pre hp h) (fun _ _ _ _ _ _ => trivial) (fun a st o t hpre h => ?_)
  obtain ⟨⟨⟨u, e, h1, h2, h3⟩, h4⟩, L, h5, h6⟩ := h
  obtain ⟨j1, j2⟩ := fr_join hp hpre h4 h2 h3
  exact ⟨⟨⟨_, e, hq u h1, j1, j2⟩, h4.of_sub (pm_sub hp)⟩, L, h5, fun q hq => va_A.of_sub (pm_sub hp) (h6 q hq)⟩
theorem fr_X {sz : Nat} {a : Array Value} {st t : State} {q : Addr} (hp : ws.Perm (wr ++ wc)) (hes : ∀ E, es E → es' E) (hpre : PcX κ av ws sz a st) (h : vx_T (XPw κ wc sz es) st q t mc ms (va_A wc sz)) : vx_T (XPw κ ws sz es') st q t mc ms (va_A ws sz) := by
  obtain ⟨E, ce, L, ⟨u, hu, ⟨h1, h2⟩, h3⟩, h4, h5, h6, h7, h8, h9⟩ := h
  obtain ⟨g1, g2, g3, g4, g5, -⟩ := hpre
  have hj := fr_join (a := a) (av := av) hp ⟨g1, g2, g3, g4, g5⟩ h3 h2 (va_D.self ((g4.perm hp).sub _ (idx_nd wr wc).1 (idx_C wr wc)))
  exact ⟨E, ce, L, ⟨u, hu, ⟨hes E h1, hj.1.perm hp.symm⟩, h3.of_sub (pm_sub hp)⟩, h4, h5, h6, h7, h8, fun q hq => va_A.of_sub (pm_sub hp) (h9 q hq)⟩
theorem CYi.frame {post : Int32 → va_W → Prop} {post' : Int32 → va_W → Prop} (hM : CYi l y cb yL yr d mc ms κ av wc es post) (hp : ws.Perm (wr ++ wc)) (hes : ∀ E, es E → es' E) (hq : ∀ r w1, post r w1 → post' r (wr ++ w1)) : CYi l y cb yL yr d mc ms κ av ws es' post' := by
  intro sz
  refine MetFree.mono (hM sz) (fun a s h => fr_preX hp h) (fun _ _ _ _ _ _ => trivial) (fun a st o t hpre h => ?_)
  rcases h with h | ⟨q, e, h⟩
  · obtain ⟨⟨⟨r, u, e, h1, h2, h3⟩, h4⟩, L, h5, h6⟩ := h
    obtain ⟨j1, j2⟩ := fr_join hp ⟨hpre.1, hpre.2.1, hpre.2.2.1, hpre.2.2.2.1, hpre.2.2.2.2.1⟩ h4 h2 h3
    exact Or.inl ⟨⟨⟨r, _, e, hq r u h1, j1, j2⟩, h4.of_sub (pm_sub hp)⟩, L, h5, fun q hq => va_A.of_sub (pm_sub hp) (h6 q hq)⟩
  · exact Or.inr ⟨q, e, fr_X hp hes hpre h⟩
theorem CYv.frame {post : va_W → Prop} {post' : va_W → Prop} (hM : CYv l y cb yL yr d mc ms κ av wc es post) (hp : ws.Perm (wr ++ wc)) (hes : ∀ E, es E → es' E) (hq : ∀ w1, post w1 → post' (wr ++ w1)) : CYv l y cb yL yr d mc ms κ av ws es' post' := by
  intro sz
  refine MetFree.mono (hM sz) (fun a s h => fr_preX hp h) (fun _ _ _ _ _ _ => trivial) (fun a st o t hpre h => ?_)
  rcases h with h | ⟨q, e, h⟩
  · obtain ⟨⟨⟨u, e, h1, h2, h3⟩, h4⟩, L, h5, h6⟩ := h
    obtain ⟨j1, j2⟩ := fr_join hp ⟨hpre.1, hpre.2.1, hpre.2.2.1, hpre.2.2.2.1, hpre.2.2.2.2.1⟩ h4 h2 h3
    exact Or.inl ⟨⟨⟨_, e, hq u h1, j1, j2⟩, h4.of_sub (pm_sub hp)⟩, L, h5, fun q hq => va_A.of_sub (pm_sub hp) (h6 q hq)⟩
  · exact Or.inr ⟨q, e, fr_X hp hes hpre h⟩
end FRM
section GR
variable {p : Program} {l : Launch} {e : Env} {R : Room} {s : State} {m : MethodId} {args : Array Value} {below : List Frame} {meth : Method} {c : Code} {κ : KK} {own : String} {cc : ByteArray} {nL : Nat} {ret : Option FieldType}
variable {J : JJ} {ws : va_W} {k n : Nat} {Q : State → Prop} {pc pc' : Nat} {lv : List (Nat × Value)} {st : List Value}
theorem g_perm {A : Nat → Prop} {ws' : va_W} (hp : ws.Perm ws') (K : G p l e R s m args below meth c κ nL (JM A s) ws' k n Q pc lv st) : G p l e R s m args below meth c κ nL (JM A s) ws k n Q pc lv st :=
  fun H locs ls hP hJ hl => K H locs ls (hP.perm hp) ⟨hJ.1.perm hp, hJ.2⟩ hl
theorem g_permP {ws' : va_W} (hp : ws.Perm ws') (K : G p l e R s m args below meth c κ nL (JP s) ws' k n Q pc lv st) : G p l e R s m args below meth c κ nL (JP s) ws k n Q pc lv st :=
  fun H locs ls hP hJ hl => K H locs ls (hP.perm hp) hJ hl
section FC
variable {A : Nat → Prop} {idx : Nat} {y : MethodName} {cb : ByteArray} {yL : Nat} {yr : Option FieldType} {nA d mc ms : Nat} {b : Nat} {av : List Value} {wc wr wcC : va_W} {es es' : String → Prop} {mcC msC : Nat} {Qc : Array Value → State → Outcome → State → Prop}
theorem g_fMi (C : Cx p s m meth c κ own cc nL ret) (hA : ∀ q, s.heap.size ≤ q → A q) (L : LV own idx y cb yL yr nA) {post : Int32 → va_W → Prop} (hM : CMi l y cb yL yr d mc ms κ (.ref b :: av) wc post) (hp0 : ws.Perm (wr ++ wc)) (q0 : Nat) {ci : Nat} {fs : List Value} (he : wc[q0]? = some (b, .inr (ci, fs))) (hc : (vwCl[ci]?).map (fun q => q.1) = some y.cls) (hlen : av.length = nA) (hcat : (st.map fun v => v.category).sum ≤ 8) (hR : d + 9 ≤ R.frames ∧ 219 + yL + 40 * d ≤ R.locals) (hf : k + mc ≤ R.cells ∧ n + ms ≤ R.slots) {stk : List Value} (hst : av.reverse ++ .ref b :: st = stk) (hd : decode cc pc = .ok (.invokevirtual idx, 3)) (hp : pc + 3 = pc') (K : ∀ r w1, post r w1 → G p l e R s m args below meth c κ nL (JM A s) (wr ++ w1) (k + mc) (n + ms) Q pc' lv (.int r :: st)) : G p l e R s m args below meth c κ nL (JM A s) ws k n Q pc lv stk :=
  g_perm hp0 (g_callMi (wr := wr) C hA L hM _ (idx_at he) hc _ _ (idx_C wr wc) (idx_R wr wc) (idx_nd wr wc) hlen hcat hR hf hst hd hp K)
theorem g_fMv (C : Cx p s m meth c κ own cc nL ret) (hA : ∀ q, s.heap.size ≤ q → A q) (L : LV own idx y cb yL yr nA) {post : va_W → Prop} (hM : CMv l y cb yL yr d mc ms κ (.ref b :: av) wc post) (hp0 : ws.Perm (wr ++ wc)) (q0 : Nat) {ci : Nat} {fs : List Value} (he : wc[q0]? = some (b, .inr (ci, fs))) (hc : (vwCl[ci]?).map (fun q => q.1) = some y.cls) (hlen : av.length = nA) (hcat : (st.map fun v => v.category).sum ≤ 8) (hR : d + 9 ≤ R.frames ∧ 219 + yL + 40 * d ≤ R.locals) (hf : k + mc ≤ R.cells ∧ n + ms ≤ R.slots) {stk : List Value} (hst : av.reverse ++ .ref b :: st = stk) (hd : decode cc pc = .ok (.invokevirtual idx, 3)) (hp : pc + 3 = pc') (K : ∀ w1, post w1 → G p l e R s m args below meth c κ nL (JM A s) (wr ++ w1) (k + mc) (n + ms) Q pc' lv st) : G p l e R s m args below meth c κ nL (JM A s) ws k n Q pc lv stk :=
  g_perm hp0 (g_callMv (wr := wr) C hA L hM _ (idx_at he) hc _ _ (idx_C wr wc) (idx_R wr wc) (idx_nd wr wc) hlen hcat hR hf hst hd hp K)
theorem g_fYv (C : Cx p s m meth c κ own cc nL ret) (Y : Cy l s c A) (hA : ∀ q, s.heap.size ≤ q → A q) (hAe : A = va_A wcC s.heap.size) (h0 : Cond.methodLink own idx y ∈ T1) (L : LV own idx y cb yL yr nA) {post : va_W → Prop} (hM : CYv l y cb yL yr d mc ms κ (.ref b :: av) wc es post) (hp0 : ws.Perm (wr ++ wc)) (hB : ws.Perm wcC) (q0 : Nat) {ci : Nat} {fs : List Value} (he : wc[q0]? = some (b, .inr (ci, fs))) (hc : (vwCl[ci]?).map (fun q => q.1) = some y.cls) (hes : ∀ E, es E → es' E) (hk9 : k + mc ≤ mcC ∧ n + ms ≤ msC) (hlen : av.length = nA) (hcat : (st.map fun v => v.category).sum ≤ 8) (hR : d + 9 ≤ R.frames ∧ 219 + yL + 40 * d ≤ R.locals) (hf : k + mc ≤ R.cells ∧ n + ms ≤ R.slots) {stk : List Value} (hst : av.reverse ++ .ref b :: st = stk) (hd : decode cc pc = .ok (.invokevirtual idx, 3)) (hp : pc + 3 = pc') (K : ∀ w1, post w1 → G p l e R s m args below meth c κ nL (JM A s) (wr ++ w1) (k + mc) (n + ms) (vx_MQ below Qc (XPw κ wcC s.heap.size es') args s mcC msC A) pc' lv st) : G p l e R s m args below meth c κ nL (JM A s) ws k n (vx_MQ below Qc (XPw κ wcC s.heap.size es') args s mcC msC A) pc lv stk := by
  refine g_perm hp0 ?_
  have hB2 : (wr ++ wc).Perm wcC := hp0.symm.trans hB
  clear hp0 hB
  subst hp
  intro H locs ls hP hJ hl
  have hC := idx_C wr wc
  have hRr := idx_R wr wc
  have hnd := idx_nd wr wc
  have hF := va_free hJ.1 hJ.2 hA _ hC
  refine vx_callv (g_xrunV C h0 L (hM H.size) ⟨PcX.blind, g_recv C hP _ (idx_at he) hc, g_preX C Y.2.2 hP hJ hC hnd.1 hF _⟩ hlen hl.1 hcat hR hf hst hd) hJ.2 (fun q _ h => hF q h) hF (fun q _ h => hF q h) (fun E ce q9 u t H1 locs1 ht hvm hpx hBX hz1 hk1 hS1 hce hv hcl => ?_) (fun u t H1 locs1 ht hvm hw hB9 hz1 hk1 hS1 => ?_)
  · obtain ⟨hP1, -⟩ := va_join hP hJ.1 _ _ hC hRr hnd.2.1 hnd.2.2 hk1 hF (by rw [← ht]; exact hBX.2) ((hJ.1.sub _ hnd.1 hC).self)
    exact g_xout C Y hAe (hes E hBX.1) (hP1.perm hB2) hS1 hce hv hcl hk9.1 hk9.2
  · obtain ⟨hP1, hD1⟩ := va_join hP hJ.1 _ _ hC hRr hnd.2.1 hnd.2.2 hk1 hF (by rw [← ht]; exact hB9.1) hB9.2
    exact K u hw H1 locs1 ls hP1 ⟨hD1, hS1⟩ hl
theorem g_fYSv (C : Cx p s m meth c κ own cc nL ret) (Y : Cy l s c A) (hA : ∀ q, s.heap.size ≤ q → A q) (hAe : A = va_A wcC s.heap.size) (h0 : Cond.methodLink own idx y ∈ T1) (L : LSt own idx y cb yL yr nA) {post : va_W → Prop} (hM : CYv l y cb yL yr d mc ms κ av wc es post) (hp0 : ws.Perm (wr ++ wc)) (hB : ws.Perm wcC) (hes : ∀ E, es E → es' E) (hk9 : k + mc ≤ mcC ∧ n + ms ≤ msC) (hlen : av.length = nA) (hcat : (st.map fun v => v.category).sum ≤ 8) (hR : d + 9 ≤ R.frames ∧ 219 + yL + 40 * d ≤ R.locals) (hf : k + mc ≤ R.cells ∧ n + ms ≤ R.slots) {stk : List Value} (hst : av.reverse ++ st = stk) (hd : decode cc pc = .ok (.invokestatic idx, 3)) (hp : pc + 3 = pc') (K : ∀ w1, post w1 → G p l e R s m args below meth c κ nL (JM A s) (wr ++ w1) (k + mc) (n + ms) (vx_MQ below Qc (XPw κ wcC s.heap.size es') args s mcC msC A) pc' lv st) : G p l e R s m args below meth c κ nL (JM A s) ws k n (vx_MQ below Qc (XPw κ wcC s.heap.size es') args s mcC msC A) pc lv stk := by
  refine g_perm hp0 ?_
  have hB2 : (wr ++ wc).Perm wcC := hp0.symm.trans hB
  clear hp0 hB
  subst hp
  intro H locs ls hP hJ hl
  have hC := idx_C wr wc
  have hRr := idx_R wr wc
  have hnd := idx_nd wr wc
  have hF := va_free hJ.1 hJ.2 hA _ hC
  refine vx_callv (g_xrunS C h0 L (hM H.size) ⟨PcX.blind, g_preX C Y.2.2 hP hJ hC hnd.1 hF _⟩ hlen hl.1 hcat hR hf hst hd) hJ.2 (fun q _ h => hF q h) hF (fun q _ h => hF q h) (fun E ce q9 u t H1 locs1 ht hvm hpx hBX hz1 hk1 hS1 hce hv hcl => ?_) (fun u t H1 locs1 ht hvm hw hB9 hz1 hk1 hS1 => ?_)
  · obtain ⟨hP1, -⟩ := va_join hP hJ.1 _ _ hC hRr hnd.2.1 hnd.2.2 hk1 hF (by rw [← ht]; exact hBX.2) ((hJ.1.sub _ hnd.1 hC).self)
    exact g_xout C Y hAe (hes E hBX.1) (hP1.perm hB2) hS1 hce hv hcl hk9.1 hk9.2
  · obtain ⟨hP1, hD1⟩ := va_join hP hJ.1 _ _ hC hRr hnd.2.1 hnd.2.2 hk1 hF (by rw [← ht]; exact hB9.1) hB9.2
    exact K u hw H1 locs1 ls hP1 ⟨hD1, hS1⟩ hl
end FC
end GR
