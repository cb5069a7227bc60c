/-! ===== a state laid out: the class's cells, the reference's cells ===== -/
abbrev outW (κ : KK) (o0 : Nat) (ou : Nat → Int64) : va_W := [(o0, .inl (κ.2 4, 1, .inr (.inl ou)))]
def LX (κ : KK) (x0 : Nat) (n : Nat) (fk : Nat → Nat) (fs : Nat → Nat) (len : Nat) (fw : Nat → Nat) (ds : Nat) (dr : Nat → Option Nat) (mc : Nat) (th : Nat → Bool) (rc : Nat → Option Nat) (ck : Nat → Nat) (pm : Nat → Nat) (ep : Nat → Nat → Option Nat) (ba : Nat) (dy : Nat) (iv : Nat → Nat → Nat) (dv : Nat → Nat → Nat) (w : va_W) : Prop := ∃ (a0 : Nat) (b0 : Nat) (q0 : Nat) (c0 : Nat) (k0 : Nat) (m1 : Nat) (m2 : Nat) (a1 : Nat) (a2 : Nat) (b1 : Nat) (q1 : Nat) (q2 : Nat) (q3 : Nat) (c1 : Nat) (c2 : Nat) (k1 : Nat) (k2 : Nat) (cr : Nat → Nat) (ki : Nat → Nat) (kd : Nat → Nat) (cnt : Nat) (fn : Nat → Nat) (fp : Nat → Nat) (fr : Nat → Nat) (M : Nat → Nat → Nat) (pk : Nat → Option Nat) (ea : Nat → Nat) (eb : Nat → Nat), MW M ∧ (∀ u, M 6 u = 0) ∧ w.Perm ([(x0, .inr (7, [.ref a0, .ref b0, .ref q0, .ref c0, .ref k0, .ref m1, .ref m2, .int (nI mc), .int (nI ds), .int (nI ba), .int (nI dy)])), (m1, .inl (κ.2 2, 8, .inr (.inr (.inr (.inr (enR th ea)))))), (a0, .inr (3, [.ref a1, .ref a2, .int (nI n)])), (a1, .inl (κ.2 0, 6, .inl (nA fk))), (a2, .inl (κ.2 0, 6, .inl (nA fs))), (b0, .inr (4, [.ref b1, .int (nI len)])), (b1, .inl (κ.2 0, 6, .inl (nA fw))), (q0, .inr (6, [.ref q1, .ref q2, .ref q3, .int (nI cnt)])), (q1, .inl (κ.2 0, 120, .inl (nA fn))), (q2, .inl (κ.2 0, 120, .inl (nA fp))), (q3, .inl (κ.2 0, 120, .inl (nA fr))), (c0, .inr (1, [.ref c1, .ref c2])), (c1, .inl (κ.2 3, 7, .inr (.inr (.inr (.inr (g7 cr)))))), ((cr 0), .inl (κ.2 0, 64, .inl (nA (M 0)))), ((cr 1), .inl (κ.2 0, 64, .inl (nA (M 1)))), ((cr 2), .inl (κ.2 0, 64, .inl (nA (M 2)))), ((cr 3), .inl (κ.2 0, 64, .inl (nA (M 3)))), ((cr 4), .inl (κ.2 0, 64, .inl (nA (M 4)))), ((cr 5), .inl (κ.2 0, 64, .inl (nA (M 5)))), ((cr 6), .inl (κ.2 0, 64, .inl (nA (M 6)))), (c2, .inl (κ.2 0, 6, .inl (oA pk))), (k0, .inr (0, [.ref k1, .ref k2])), (k1, .inl (κ.2 3, 3, .inr (.inr (.inr (.inr (g3 ki)))))), (k2, .inl (κ.2 3, 3, .inr (.inr (.inr (.inr (g3 kd)))))), ((ki 0), .inl (κ.2 0, 8, .inl (nA (iv 0)))), ((ki 1), .inl (κ.2 0, 8, .inl (nA (iv 1)))), ((ki 2), .inl (κ.2 0, 8, .inl (nA (iv 2)))), ((kd 0), .inl (κ.2 0, 8, .inl (nA (dv 0)))), ((kd 1), .inl (κ.2 0, 8, .inl (nA (dv 1)))), ((kd 2), .inl (κ.2 0, 8, .inl (nA (dv 2)))), (m2, .inl (κ.2 0, 4, .inl (oA dr)))] ++ esL κ rc ck pm ep ea eb mc)
def LM (κ : KK) (u0 t9 : Nat) (n : Nat) (fk : Nat → Nat) (fs : Nat → Nat) (len : Nat) (fw : Nat → Nat) (ds : Nat) (dr : Nat → Option Nat) (mc : Nat) (th : Nat → Bool) (rc : Nat → Option Nat) (ck : Nat → Nat) (pm : Nat → Nat) (ep : Nat → Nat → Option Nat) (ba : Nat) (dy : Nat) (iv : Nat → Nat → Nat) (dv : Nat → Nat → Nat) (w : va_W) : Prop := ∃ (u1 : Nat) (u2 : Nat) (u3 : Nat) (u4 : Nat) (u5 : Nat) (u6 : Nat) (u7 : Nat) (u8 : Nat) (u9 : Nat) (ua : Nat) (ub : Nat) (uc : Nat) (ud : Nat) (ue : Nat) (uf : Nat) (ug : Nat) (sm : Nat) (se : Nat → Nat) (ss : Nat → Nat) (be : Nat → Nat) (gl : Nat → Option Nat) (st9 : Nat → Nat), w.Perm [(u0, .inr (8, [.int (nI t9), .int (nI n), .ref u1, .ref u2, .int (nI ds), .ref u3, .int (nI mc), .ref u4, .ref u5, .ref u6, .ref u7, .ref u8, .int (nI len), .ref u9, .int (nI ba), .int (nI sm), .ref ua, .ref ub, .ref uc, .ref ud, .ref ue, .int (nI dy), .ref uf, .ref ug])), (u1, .inl (κ.2 0, 6, .inl (nA fk))), (u2, .inl (κ.2 0, 6, .inl (nA fs))), (u3, .inl (κ.2 0, 4, .inl (oA dr))), (u4, .inl (κ.2 1, 8, .inl (zA th))), (u5, .inl (κ.2 0, 8, .inl (nA ck))), (u6, .inl (κ.2 0, 8, .inl (oA rc))), (u7, .inl (κ.2 0, 8, .inl (nA pm))), (u8, .inl (κ.2 0, 32, .inl (oA (fl4 ep)))), (u9, .inl (κ.2 0, 6, .inl (nA fw))), (ua, .inl (κ.2 0, 160, .inl (nA se))), (ub, .inl (κ.2 0, 160, .inl (nA ss))), (uc, .inl (κ.2 0, 64, .inl (nA be))), (ud, .inl (κ.2 0, 6, .inl (oA gl))), (ue, .inl (κ.2 0, 6, .inl (nA st9))), (uf, .inl (κ.2 0, 24, .inl (nA (fl8 iv)))), (ug, .inl (κ.2 0, 24, .inl (nA (fl8 dv))))]
/-- what a call of the law says: by its code, the next state or the same -/
def PX (κ : KK) (o0 c : Nat) (F F0 : va_W → Prop) (V : Int32) : Int32 → va_W → Prop := fun r w1 => (c = 0 ∧ r = nI 0 ∧ ∃ (w2 : va_W) (ou2 : Nat → Int64), w1.Perm (w2 ++ outW κ o0 ou2) ∧ F w2 ∧ ou2 0 = V.toInt64) ∨ (c ≠ 0 ∧ r = nI c ∧ ∃ (w2 : va_W) (ou2 : Nat → Int64), w1.Perm (w2 ++ outW κ o0 ou2) ∧ F0 w2)
def PM (c : Nat) (F : va_W → Prop) (F0 : Nat → va_W → Prop) (V : Int32) : Int32 → va_W → Prop := fun r w1 => (c = 0 → F w1 ∧ r = V) ∧ (c ≠ 0 → F0 c w1)
theorem pw_mid {w L es O : va_W} (h : w.Perm (L ++ es)) : (w ++ O).Perm ((L ++ O) ++ es) := by
  refine (h.append_right O).trans ?_
  rw [List.append_assoc, List.append_assoc]
  exact List.Perm.append_left L List.perm_append_comm
theorem CP.sub {l : Launch} {y : MethodName} {cb : ByteArray} {yL : Nat} {yr : Option FieldType} {d : Nat} {κ : KK} {av : List Value} {ws wc : va_W} {post : Int32 → Prop} (hM : CP l y cb yL yr d κ av wc post) (h : ∀ q ∈ wc, q ∈ ws) : CP l y cb yL yr d κ av ws post :=
  by
    unfold CP at *
    exact MetFree.mono hM (fun _ _ q => ⟨q.1, q.2.1.of_sub h, q.2.2⟩) (fun _ _ _ _ _ _ => trivial) (fun _ _ _ _ _ q => q)
theorem fm_congr {α : Type} {f g : Nat → List α} : ∀ {l : List Nat}, (∀ x ∈ l, f x = g x) → l.flatMap f = l.flatMap g
  | [], _ => rfl
  | x :: xs, h => by rw [List.flatMap_cons, List.flatMap_cons, h x List.mem_cons_self, fm_congr (fun y hy => h y (List.mem_cons_of_mem _ hy))]
theorem esL_congr {κ : KK} {rc rc' : Nat → Option Nat} {ck ck' pm pm' : Nat → Nat} {ep ep' : Nat → Nat → Option Nat} {ea ea' eb eb' : Nat → Nat} {mc : Nat} (h : ∀ e, e < mc → rc e = rc' e ∧ ck e = ck' e ∧ pm e = pm' e ∧ ep e = ep' e ∧ ea e = ea' e ∧ eb e = eb' e) : esL κ rc ck pm ep ea eb mc = esL κ rc' ck' pm' ep' ea' eb' mc := by
  unfold esL
  refine fm_congr (fun e he => ?_)
  obtain ⟨h1, h2, h3, h4, h5, h6⟩ := h e (List.mem_range.mp he)
  unfold ewL
  rw [h1, h2, h3, h4, h5, h6]
theorem esL_s {κ : KK} {rc : Nat → Option Nat} {ck pm : Nat → Nat} {ep : Nat → Nat → Option Nat} {ea eb : Nat → Nat} {mc : Nat} : esL κ rc ck pm ep ea eb (mc + 1) = esL κ rc ck pm ep ea eb mc ++ ewL κ rc ck pm ep ea eb mc := by
  unfold esL
  rw [List.range_succ, List.flatMap_append]
  simp
theorem esL_ph {κ : KK} {rc : Nat → Option Nat} {ck pm : Nat → Nat} {ep : Nat → Nat → Option Nat} {dr : Nat → Option Nat} {ea eb : Nat → Nat} {mc k ds e0 e1 : Nat} : esL κ (va_up rc mc none) (va_up ck mc k) (va_up pm mc ds) (epD ep dr mc ds) (va_up ea mc e0) (va_up eb mc e1) (mc + 1) = esL κ rc ck pm ep ea eb mc ++ [(e0, .inr (2, [.int (nI k), .ref e1])), (e1, .inl (κ.2 0, ds, .inl (oA (fun j => if j < ds then dr j else ep mc j))))] := by
  rw [esL_s]
  congr 1
  · exact (esL_congr (fun e he => by
      have q : e ≠ mc := by omega
      have e2 : epD ep dr mc ds e = ep e := va_up_ne _ _ q
      rw [va_up_ne _ _ q, va_up_ne _ _ q, va_up_ne _ _ q, e2, va_up_ne _ _ q, va_up_ne _ _ q]
      exact ⟨rfl, rfl, rfl, rfl, rfl, rfl⟩))
  · have e1' : va_up rc mc none mc = none := va_up_self _ _ _
    unfold ewL
    rw [e1']
    simp only [va_up_self]
    have e2 : epD ep dr mc ds mc = fun j => if j < ds then dr j else ep mc j := va_up_self _ _ _
    rw [e2]
theorem esL_sp {κ : KK} {rc : Nat → Option Nat} {ck pm : Nat → Nat} {ep : Nat → Nat → Option Nat} {ea eb : Nat → Nat} {mc k a b r e0 : Nat} : esL κ (va_up rc mc (some r)) (va_up ck mc k) pm (epS ep mc a b) (va_up ea mc e0) eb (mc + 1) = esL κ rc ck pm ep ea eb mc ++ [(e0, .inr (5, [.int (nI k), .int (nI a), .int (nI b), .int (nI r)]))] := by
  rw [esL_s]
  congr 1
  · exact (esL_congr (fun e he => by
      have q : e ≠ mc := by omega
      rw [va_up_ne _ _ q, va_up_ne _ _ q, epS_n q, va_up_ne _ _ q]
      exact ⟨rfl, rfl, rfl, rfl, rfl, rfl⟩))
  · have e1' : va_up rc mc (some r) mc = some r := va_up_self _ _ _
    unfold ewL
    rw [e1']
    simp only [va_up_self, epS_0, epS_1]
    rfl
theorem pw_ent {L es X O : va_W} : ((L ++ (es ++ X)) ++ O).Perm (((L ++ O) ++ X) ++ es) := by
  refine (pw_mid (List.Perm.refl _)).trans ?_
  rw [List.append_assoc (L ++ O) X es]
  exact List.Perm.append_left _ List.perm_append_comm
theorem cpl_0 {p0 : Int32} {len : Nat} (hl : len ≤ 6) (h : c_place p0 len = 0) : n9 p0 < 6 := by
  unfold c_place at h
  split at h
  · rename_i q
    obtain ⟨a, -, ha, rfl⟩ := inZ_w q (by decide)
    rw [n9_nI (by omega)]; omega
  · omega
theorem v_newM {iv : Nat → Nat → Nat} {g : Nat → Bool} {r mc : Nat} (h : mc ≤ 8) : cntB (fun e => g e && decide (fl8 iv (8 * r + e) = 0)) mc = cntB (fun e => g e && decide (iv r e = 0)) mc := cntB_congr (fun j hj => by rw [fl8_at (by omega)])
theorem LX.recv {κ : KK} {x0 : Nat} {n : Nat} {fk : Nat → Nat} {fs : Nat → Nat} {len : Nat} {fw : Nat → Nat} {ds : Nat} {dr : Nat → Option Nat} {mc : Nat} {th : Nat → Bool} {rc : Nat → Option Nat} {ck : Nat → Nat} {pm : Nat → Nat} {ep : Nat → Nat → Option Nat} {ba : Nat} {dy : Nat} {iv : Nat → Nat → Nat} {dv : Nat → Nat → Nat} {w : va_W} (H : LX κ x0 n fk fs len fw ds dr mc th rc ck pm ep ba dy iv dv w) : ∃ (q : Nat) (fs : List Value), w[q]? = some (x0, .inr (7, fs)) := by
  obtain ⟨a0, b0, q0, c0, k0, m1, m2, a1, a2, b1, q1, q2, q3, c1, c2, k1, k2, cr, ki, kd, cnt, fn, fp, fr, M, pk, ea, eb, hMW, h6, hp⟩ := H
  obtain ⟨q, hq⟩ := List.getElem?_of_mem (hp.mem_iff.mpr (List.mem_append_left _ List.mem_cons_self))
  exact ⟨q, _, hq⟩
theorem LM.recv {κ : KK} {u0 t9 : Nat} {n : Nat} {fk : Nat → Nat} {fs : Nat → Nat} {len : Nat} {fw : Nat → Nat} {ds : Nat} {dr : Nat → Option Nat} {mc : Nat} {th : Nat → Bool} {rc : Nat → Option Nat} {ck : Nat → Nat} {pm : Nat → Nat} {ep : Nat → Nat → Option Nat} {ba : Nat} {dy : Nat} {iv : Nat → Nat → Nat} {dv : Nat → Nat → Nat} {w : va_W} (H : LM κ u0 t9 n fk fs len fw ds dr mc th rc ck pm ep ba dy iv dv w) : ∃ (q : Nat) (fs : List Value), w[q]? = some (u0, .inr (8, fs)) := by
  obtain ⟨u1, u2, u3, u4, u5, u6, u7, u8, u9, ua, ub, uc, ud, ue, uf, ug, sm, se, ss, be, gl, st9, hp⟩ := H
  obtain ⟨q, hq⟩ := List.getElem?_of_mem (hp.mem_iff.mpr List.mem_cons_self)
  exact ⟨q, _, hq⟩
theorem hM_thrown (l : Launch) (κ : KK) (u0 : Nat) {t9 : Nat} {n : Nat} {fk : Nat → Nat} {fs : Nat → Nat} {len : Nat} {fw : Nat → Nat} {ds : Nat} {dr : Nat → Option Nat} {mc : Nat} {th : Nat → Bool} {rc : Nat → Option Nat} {ck : Nat → Nat} {pm : Nat → Nat} {ep : Nat → Nat → Option Nat} {ba : Nat} {dy : Nat} {iv : Nat → Nat → Nat} {dv : Nat → Nat → Nat} {w : va_W} (H : LM κ u0 t9 n fk fs len fw ds dr mc th rc ck pm ep ba dy iv dv w) : CP l yX9_thrown cX9_thrown 1 (some .int) 0 κ [.ref u0] w (fun r => r = nI t9) := by
  obtain ⟨u1, u2, u3, u4, u5, u6, u7, u8, u9, ua, ub, uc, ud, ue, uf, ug, sm, se, ss, be, gl, st9, hp⟩ := H
  exact (kX9_thrown l κ u0 u1 u2 u3 u4 u5 u6 u7 u8 u9 ua ub uc ud ue uf ug t9 n ds mc len ba sm dy).sub (fun q hq => hp.mem_iff.mpr (by rw [List.mem_singleton] at hq; rw [hq]; exact List.mem_cons_self))
