/-! ===== a state laid out: the class's cells ===== -/
def LX (κ : KK) (x0 : Nat) (n : Nat) (fk : Nat → Nat) (fs : Nat → Nat) (len : Nat) (fw : Nat → Nat) (ds : Nat) (dr : Nat → Option Nat) (mc : Nat) (th : Nat → Bool) (rc : Nat → Option Nat) (ck : Nat → Nat) (pm : Nat → Nat) (ep : Nat → Nat → Option Nat) (ba : Nat) (dy : Nat) (iv : Nat → Nat → Nat) (dv : Nat → Nat → Nat) (w : va_W) : Prop := ∃ (a0 : Nat) (b0 : Nat) (q0 : Nat) (c0 : Nat) (k0 : Nat) (m1 : Nat) (m2 : Nat) (a1 : Nat) (a2 : Nat) (b1 : Nat) (q1 : Nat) (q2 : Nat) (q3 : Nat) (c1 : Nat) (c2 : Nat) (k1 : Nat) (k2 : Nat) (cr : Nat → Nat) (ki : Nat → Nat) (kd : Nat → Nat) (cnt : Nat) (fn : Nat → Nat) (fp : Nat → Nat) (fr : Nat → Nat) (M : Nat → Nat → Nat) (pk : Nat → Option Nat) (ea : Nat → Nat) (eb : Nat → Nat), MW M ∧ (∀ u, M 6 u = 0) ∧ w.Perm ([(x0, .inr (7, [.ref a0, .ref b0, .ref q0, .ref c0, .ref k0, .ref m1, .ref m2, .int (nI mc), .int (nI ds), .int (nI ba), .int (nI dy)])), (m1, .inl (κ.2 2, 8, .inr (.inr (.inr (.inr (enR th ea)))))), (a0, .inr (3, [.ref a1, .ref a2, .int (nI n)])), (a1, .inl (κ.2 0, 6, .inl (nA fk))), (a2, .inl (κ.2 0, 6, .inl (nA fs))), (b0, .inr (4, [.ref b1, .int (nI len)])), (b1, .inl (κ.2 0, 6, .inl (nA fw))), (q0, .inr (6, [.ref q1, .ref q2, .ref q3, .int (nI cnt)])), (q1, .inl (κ.2 0, 120, .inl (nA fn))), (q2, .inl (κ.2 0, 120, .inl (nA fp))), (q3, .inl (κ.2 0, 120, .inl (nA fr))), (c0, .inr (1, [.ref c1, .ref c2])), (c1, .inl (κ.2 3, 7, .inr (.inr (.inr (.inr (g7 cr)))))), ((cr 0), .inl (κ.2 0, 64, .inl (nA (M 0)))), ((cr 1), .inl (κ.2 0, 64, .inl (nA (M 1)))), ((cr 2), .inl (κ.2 0, 64, .inl (nA (M 2)))), ((cr 3), .inl (κ.2 0, 64, .inl (nA (M 3)))), ((cr 4), .inl (κ.2 0, 64, .inl (nA (M 4)))), ((cr 5), .inl (κ.2 0, 64, .inl (nA (M 5)))), ((cr 6), .inl (κ.2 0, 64, .inl (nA (M 6)))), (c2, .inl (κ.2 0, 6, .inl (oA pk))), (k0, .inr (0, [.ref k1, .ref k2])), (k1, .inl (κ.2 3, 3, .inr (.inr (.inr (.inr (g3 ki)))))), (k2, .inl (κ.2 3, 3, .inr (.inr (.inr (.inr (g3 kd)))))), ((ki 0), .inl (κ.2 0, 8, .inl (nA (iv 0)))), ((ki 1), .inl (κ.2 0, 8, .inl (nA (iv 1)))), ((ki 2), .inl (κ.2 0, 8, .inl (nA (iv 2)))), ((kd 0), .inl (κ.2 0, 8, .inl (nA (dv 0)))), ((kd 1), .inl (κ.2 0, 8, .inl (nA (dv 1)))), ((kd 2), .inl (κ.2 0, 8, .inl (nA (dv 2)))), (m2, .inl (κ.2 0, 4, .inl (oA dr)))] ++ esL κ rc ck pm ep ea eb mc)
theorem fm_congr {α : Type} {f g : Nat → List α} : ∀ {l : List Nat}, (∀ x ∈ l, f x = g x) → l.flatMap f = l.flatMap g
  | [], _ => rfl
  | x :: xs, h => by rw [List.flatMap_cons, List.flatMap_cons, h x List.mem_cons_self, fm_congr (fun y hy => h y (List.mem_cons_of_mem _ hy))]
theorem esL_congr {κ : KK} {rc rc' : Nat → Option Nat} {ck ck' pm pm' : Nat → Nat} {ep ep' : Nat → Nat → Option Nat} {ea ea' eb eb' : Nat → Nat} {mc : Nat} (h : ∀ e, e < mc → rc e = rc' e ∧ ck e = ck' e ∧ pm e = pm' e ∧ ep e = ep' e ∧ ea e = ea' e ∧ eb e = eb' e) : esL κ rc ck pm ep ea eb mc = esL κ rc' ck' pm' ep' ea' eb' mc := by
  unfold esL
  refine fm_congr (fun e he => ?_)
  obtain ⟨h1, h2, h3, h4, h5, h6⟩ := h e (List.mem_range.mp he)
  unfold ewL
  rw [h1, h2, h3, h4, h5, h6]
theorem esL_s {κ : KK} {rc : Nat → Option Nat} {ck pm : Nat → Nat} {ep : Nat → Nat → Option Nat} {ea eb : Nat → Nat} {mc : Nat} : esL κ rc ck pm ep ea eb (mc + 1) = esL κ rc ck pm ep ea eb mc ++ ewL κ rc ck pm ep ea eb mc := by
  unfold esL
  rw [List.range_succ, List.flatMap_append]
  simp
theorem esL_ph {κ : KK} {rc : Nat → Option Nat} {ck pm : Nat → Nat} {ep : Nat → Nat → Option Nat} {dr : Nat → Option Nat} {ea eb : Nat → Nat} {mc k ds e0 e1 : Nat} : esL κ (va_up rc mc none) (va_up ck mc k) (va_up pm mc ds) (va_up ep mc dr) (va_up ea mc e0) (va_up eb mc e1) (mc + 1) = esL κ rc ck pm ep ea eb mc ++ [(e0, .inr (2, [.int (nI k), .ref e1])), (e1, .inl (κ.2 0, ds, .inl (oA dr)))] := by
  rw [esL_s]
  congr 1
  · exact (esL_congr (fun e he => by
      have q : e ≠ mc := by omega
      have e2 : va_up ep mc dr e = ep e := va_up_ne _ _ q
      rw [va_up_ne _ _ q, va_up_ne _ _ q, va_up_ne _ _ q, e2, va_up_ne _ _ q, va_up_ne _ _ q]
      exact ⟨rfl, rfl, rfl, rfl, rfl, rfl⟩))
  · have e1' : va_up rc mc none mc = none := va_up_self _ _ _
    unfold ewL
    rw [e1']
    simp only [va_up_self]
theorem esL_sp {κ : KK} {rc : Nat → Option Nat} {ck pm : Nat → Nat} {ep : Nat → Nat → Option Nat} {ea eb : Nat → Nat} {mc k a b r e0 : Nat} : esL κ (va_up rc mc (some r)) (va_up ck mc k) pm (epS ep mc a b) (va_up ea mc e0) eb (mc + 1) = esL κ rc ck pm ep ea eb mc ++ [(e0, .inr (5, [.int (nI k), .int (nI a), .int (nI b), .int (nI r)]))] := by
  rw [esL_s]
  congr 1
  · exact (esL_congr (fun e he => by
      have q : e ≠ mc := by omega
      rw [va_up_ne _ _ q, va_up_ne _ _ q, epS_n q, va_up_ne _ _ q]
      exact ⟨rfl, rfl, rfl, rfl, rfl, rfl⟩))
  · have e1' : va_up rc mc (some r) mc = some r := va_up_self _ _ _
    unfold ewL
    rw [e1']
    simp only [va_up_self, epS_0, epS_1]
    rfl
theorem pw_ent {L es X : va_W} : (L ++ (es ++ X)).Perm ((L ++ X) ++ es) := by
  rw [List.append_assoc L X es]
  exact List.Perm.append_left _ List.perm_append_comm
theorem cpl_0 {p0 : Int32} {len : Nat} (hl : len ≤ 6) (h : c_place p0 len = 0) : n9 p0 < 6 := by
  unfold c_place at h
  split at h
  · rename_i q
    obtain ⟨a, -, ha, rfl⟩ := inZ_w q (by decide)
    rw [n9_nI (by omega)]; omega
  · omega
theorem LX.recv {κ : KK} {x0 : Nat} {n : Nat} {fk : Nat → Nat} {fs : Nat → Nat} {len : Nat} {fw : Nat → Nat} {ds : Nat} {dr : Nat → Option Nat} {mc : Nat} {th : Nat → Bool} {rc : Nat → Option Nat} {ck : Nat → Nat} {pm : Nat → Nat} {ep : Nat → Nat → Option Nat} {ba : Nat} {dy : Nat} {iv : Nat → Nat → Nat} {dv : Nat → Nat → Nat} {w : va_W} (H : LX κ x0 n fk fs len fw ds dr mc th rc ck pm ep ba dy iv dv w) : ∃ (q : Nat) (fs : List Value), w[q]? = some (x0, .inr (7, fs)) := by
  obtain ⟨a0, b0, q0, c0, k0, m1, m2, a1, a2, b1, q1, q2, q3, c1, c2, k1, k2, cr, ki, kd, cnt, fn, fp, fr, M, pk, ea, eb, hMW, h6, hp⟩ := H
  obtain ⟨q, hq⟩ := List.getElem?_of_mem (hp.mem_iff.mpr (List.mem_append_left _ List.mem_cons_self))
  exact ⟨q, _, hq⟩
