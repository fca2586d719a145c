/-! ===== the class's own cells: what a change of theirs leaves ===== -/
section OWN
variable {P P' : pS} {c m : Nat} {lv im tr ct as : Nat → Nat} {A A' : Nat → Nat → Int32} {F F' : Nat → Int32} {n nt np : Nat} {T : Nat → Prop}
/-- only cells of the class's own are touched -/
def oT (c : Nat) (ct : Nat → Nat) (T : Nat → Prop) : Prop := ∀ a, T a → a = c ∨ ∃ i, cIx i ∧ a = ct i
theorem CS.o_w (h : CS P c lv im tr ct as) (hT : oT c ct T) (i : Nat) (hi : wIx i) : ¬ T (lv i) ∧ ¬ T (im i) ∧ ¬ T (tr i) := by
  refine ⟨fun w => ?_, fun w => ?_, fun w => ?_⟩
  · rcases hT _ w with q | ⟨j, hj, q⟩
    · exact (wK_ne i).1 ((h.wl.1 i hi).2.symm.trans (by rw [q]; exact h.1.2))
    · exact (h.wc hi hj).1 q
  · rcases hT _ w with q | ⟨j, hj, q⟩
    · exact (wK_ne i).1 ((h.wi.1 i hi).2.symm.trans (by rw [q]; exact h.1.2))
    · exact (h.wc hi hj).2.1 q
  · rcases hT _ w with q | ⟨j, hj, q⟩
    · exact (wK_ne i).1 ((h.wt.1 i hi).2.symm.trans (by rw [q]; exact h.1.2))
    · exact (h.wc hi hj).2.2 q
theorem CS.o_x (h : CS P c lv im tr ct as) (hT : oT c ct T) : nT P T := by
  refine ⟨fun τ q w => ?_, fun τ a q r w => ?_⟩
  · rcases hT _ w with e | ⟨j, hj, e⟩
    · exact hk_ne q h.1 (by decide) e
    · exact (cK_ne j).2.2.1 ((h.2.1 j hj).1.2.symm.trans (by rw [← e]; exact q.2))
  · obtain ⟨h1, h2, -⟩ := h.tx q (Or.inl r)
    rcases hT _ w with e | ⟨j, hj, e⟩
    · exact hk_ne h1 h.1 (by decide) e
    · exact h2 j hj e
theorem CS.o_m (h : CS P c lv im tr ct as) (hT : oT c ct T) (hm : hk P m 9) : ¬ T m := fun w => by
  rcases hT _ w with e | ⟨j, hj, e⟩
  · exact hk_ne hm h.1 (by decide) e
  · exact (cK_ne j).2.1 ((h.2.1 j hj).1.2.symm.trans (by rw [← e]; exact hm.2))
theorem CS.o_a (h : CS P c lv im tr ct as) (hT : oT c ct T) {f : Nat} (hf : f ∈ AF) : ¬ T (as f) := fun w => by
  obtain ⟨h1, -, h3⟩ := h.am hf
  rcases hT _ w with e | ⟨j, hj, e⟩
  · exact hk_ne h1 h.1 (by decide) e
  · exact h3 j hj e.symm
theorem CS.cne (h : CS P c lv im tr ct as) {i : Nat} (hi : cIx i) : ct i ≠ c := fun e => (cK_ne i).1 ((h.2.1 i hi).1.2.symm.trans (by rw [e]; exact h.1.2))
theorem im_fr2 (h : IM P c im A F) (hf : fr T P P') (e : gI P' 259 c = gI P 259 c) (hT : ∀ i, wIx i → ¬ T (im i)) (hx : nT P T) : IM P' c im A F := by
  refine ⟨by rw [e]; exact h.1, ?_⟩
  rcases h.2 with q | ⟨q, n, nt, np, w⟩
  · exact Or.inl q
  · exact Or.inr ⟨q, n, nt, np, fun τ e => (w τ e).fr hf hT hx⟩
theorem wq_fr2 (h : WQ P c ct A F) (hf : fr T P P') (e : gI P' 265 c = gI P 265 c) (h6 : ¬ T (ct 6)) : WQ P' c ct A F := ⟨h.1, by rw [e]; exact h.2.1, by rw [hf.2.2 _ h6]; exact h.2.2⟩
theorem IM.cg (h : IM P c im A F) (e1 : A' 289 = A 289) (e2 : F' 291 = F 291) : IM P c im A' F' := by unfold IM at *; rw [e1, e2]; exact h
theorem SH.cg (h : SH P ct A) (e1 : A' 292 = A 292) (e2 : A' 293 = A 293) (e3 : A' 294 = A 294) : SH P ct A' := by unfold SH at *; rw [e1, e2, e3]; exact h
theorem SL.cg (h : SL P ct A) (e1 : A' 295 = A 295) (e2 : A' 296 = A 296) (e3 : A' 297 = A 297) (e4 : A' 298 = A 298) (e5 : A' 299 = A 299) : SL P ct A' := by unfold SL at *; rw [e1, e2, e3, e4, e5]; exact h
theorem WQ.cg (h : WQ P c ct A F) (e1 : A' 315 = A 315) (e2 : F' 316 = F 316) : WQ P c ct A' F' := by unfold WQ at *; rw [e1, e2]; exact h
theorem TP.cg (h : TP P ct A F) (e1 : A' 300 = A 300) (e2 : F' 301 = F 301) : TP P ct A' F' := by unfold TP at *; rw [e1, e2]; exact h
theorem IV.own (h : IV P c m lv im tr ct as A F n nt np) (hf : fr T P P') (hT : oT c ct T) (e0 : A' 288 = A 288) (h1 : IM P' c im A' F') (h2 : SH P' ct A') (h3 : SL P' ct A') (h4 : WQ P' c ct A' F') (h5 : TP P' ct A' F') : NX P P' c m lv im tr ct as A' F' n nt np := by
  have k := KP.fr (m := m) (as := as) hf (h.1.o_m hT h.2.1.1) (fun f q => h.1.o_a hT q)
  refine ⟨k, h.1.sp hf.1, k.mf h.2.1, ?_, h1, h2, h3, h4, h5⟩
  rw [e0]
  exact h.2.2.1.fr hf (fun i hi => (h.1.o_w hT i hi).1) (h.1.o_x hT)
/-- sheets alone -/
theorem IV.sheets (h : IV P c m lv im tr ct as A F n nt np) (hf : fr T P P') (hT : ∀ a, T a → ∃ i, (10 ≤ i ∧ i < 18) ∧ a = ct i) (hA : ∀ f, f ≠ 292 → f ≠ 293 → f ≠ 294 → A' f = A f) (hS : SH P' ct A') : NX P P' c m lv im tr ct as A' F n nt np := by
  have hO : oT c ct T := fun a q => by obtain ⟨i, hi, e⟩ := hT a q; exact Or.inr ⟨i, by unfold cIx; omega, e⟩
  have nc : ¬ T c := fun q => by obtain ⟨i, hi, e⟩ := hT c q; exact h.1.cne (i := i) (by unfold cIx; omega) e.symm
  have nt : ∀ j, cIx j → ¬ (10 ≤ j ∧ j < 18) → ¬ T (ct j) := fun j hj hn q => by obtain ⟨i, hi, e⟩ := hT _ q; exact hn (by rw [h.1.inj hj (by unfold cIx; omega) e]; exact hi)
  obtain ⟨d1, d2, d3, d4, d5, d6⟩ := h.2.2
  exact h.own hf hO (hA 288 (by decide) (by decide) (by decide)) ((d2.fr hf nc (fun i hi => (h.1.o_w hO i hi).2.1) (h.1.o_x hO)).cg (hA 289 (by decide) (by decide) (by decide)) rfl) hS ((d4.fr hf (fun i q => nt i (by unfold cIx; omega) (by omega))).cg (hA 295 (by decide) (by decide) (by decide)) (hA 296 (by decide) (by decide) (by decide)) (hA 297 (by decide) (by decide) (by decide)) (hA 298 (by decide) (by decide) (by decide)) (hA 299 (by decide) (by decide) (by decide))) ((d5.fr hf nc (nt 6 (by decide) (by decide))).cg (hA 315 (by decide) (by decide) (by decide)) rfl) ((d6.fr hf (nt 1 (by decide) (by decide)) (nt 2 (by decide) (by decide))).cg (hA 300 (by decide) (by decide) (by decide)) rfl)
/-- slots alone -/
theorem IV.slots (h : IV P c m lv im tr ct as A F n nt np) (hf : fr T P P') (hT : ∀ a, T a → ∃ i, (20 ≤ i ∧ i < 40) ∧ a = ct i) (hA : ∀ f, (f < 295 ∨ 299 < f) → A' f = A f) (hS : SL P' ct A') : NX P P' c m lv im tr ct as A' F n nt np := by
  have hO : oT c ct T := fun a q => by obtain ⟨i, hi, e⟩ := hT a q; exact Or.inr ⟨i, by unfold cIx; omega, e⟩
  have nc : ¬ T c := fun q => by obtain ⟨i, hi, e⟩ := hT c q; exact h.1.cne (i := i) (by unfold cIx; omega) e.symm
  have nt : ∀ j, cIx j → ¬ (20 ≤ j ∧ j < 40) → ¬ T (ct j) := fun j hj hn q => by obtain ⟨i, hi, e⟩ := hT _ q; exact hn (by rw [h.1.inj hj (by unfold cIx; omega) e]; exact hi)
  obtain ⟨d1, d2, d3, d4, d5, d6⟩ := h.2.2
  exact h.own hf hO (hA 288 (by decide)) ((d2.fr hf nc (fun i hi => (h.1.o_w hO i hi).2.1) (h.1.o_x hO)).cg (hA 289 (by decide)) rfl) ((d3.fr hf (fun i q => nt i (by unfold cIx; omega) (by omega))).cg (hA 292 (by decide)) (hA 293 (by decide)) (hA 294 (by decide))) hS ((d5.fr hf nc (nt 6 (by decide) (by decide))).cg (hA 315 (by decide)) rfl) ((d6.fr hf (nt 1 (by decide) (by decide)) (nt 2 (by decide) (by decide))).cg (hA 300 (by decide)) rfl)
/-- the tape alone -/
theorem IV.tape (h : IV P c m lv im tr ct as A F n nt np) (hf : fr T P P') (hT : ∀ a, T a → a = ct 1 ∨ a = ct 2) (hA : ∀ f, f ≠ 300 → A' f = A f) (hF : ∀ f, f ≠ 301 → F' f = F f) (hS : TP P' ct A' F') : NX P P' c m lv im tr ct as A' F' n nt np := by
  have hO : oT c ct T := fun a q => by
    rcases hT a q with e | e
    · exact Or.inr ⟨1, by decide, e⟩
    · exact Or.inr ⟨2, by decide, e⟩
  have nc : ¬ T c := fun q => by
    rcases hT _ q with e | e
    · exact h.1.cne (i := 1) (by decide) e.symm
    · exact h.1.cne (i := 2) (by decide) e.symm
  have nt : ∀ j, cIx j → ¬ (j = 1 ∨ j = 2) → ¬ T (ct j) := fun j hj hn q => by
    rcases hT _ q with e | e
    · exact hn (Or.inl (h.1.inj hj (by decide) e))
    · exact hn (Or.inr (h.1.inj hj (by decide) e))
  obtain ⟨d1, d2, d3, d4, d5, d6⟩ := h.2.2
  exact h.own hf hO (hA 288 (by decide)) ((d2.fr hf nc (fun i hi => (h.1.o_w hO i hi).2.1) (h.1.o_x hO)).cg (hA 289 (by decide)) (hF 291 (by decide))) ((d3.fr hf (fun i q => nt i (by unfold cIx; omega) (by omega))).cg (hA 292 (by decide)) (hA 293 (by decide)) (hA 294 (by decide))) ((d4.fr hf (fun i q => nt i (by unfold cIx; omega) (by omega))).cg (hA 295 (by decide)) (hA 296 (by decide)) (hA 297 (by decide)) (hA 298 (by decide)) (hA 299 (by decide))) ((d5.fr hf nc (nt 6 (by decide) (by decide))).cg (hA 315 (by decide)) (hF 316 (by decide))) hS
/-- what waits alone -/
theorem IV.waits (h : IV P c m lv im tr ct as A F n nt np) (hf : fr T P P') (hT : ∀ a, T a → a = c ∨ a = ct 6) (ek : gI P' 259 c = gI P 259 c) (hA : ∀ f, f ≠ 315 → A' f = A f) (hF : ∀ f, f ≠ 316 → F' f = F f) (hS : WQ P' c ct A' F') : NX P P' c m lv im tr ct as A' F' n nt np := by
  have hO : oT c ct T := fun a q => by
    rcases hT a q with e | e
    · exact Or.inl e
    · exact Or.inr ⟨6, by decide, e⟩
  have nt : ∀ j, cIx j → j ≠ 6 → ¬ T (ct j) := fun j hj hn q => by
    rcases hT _ q with e | e
    · exact h.1.cne hj e
    · exact hn (h.1.inj hj (by decide) e)
  obtain ⟨d1, d2, d3, d4, d5, d6⟩ := h.2.2
  exact h.own hf hO (hA 288 (by decide)) ((im_fr2 d2 hf ek (fun i hi => (h.1.o_w hO i hi).2.1) (h.1.o_x hO)).cg (hA 289 (by decide)) (hF 291 (by decide))) ((d3.fr hf (fun i q => nt i (by unfold cIx; omega) (by omega))).cg (hA 292 (by decide)) (hA 293 (by decide)) (hA 294 (by decide))) ((d4.fr hf (fun i q => nt i (by unfold cIx; omega) (by omega))).cg (hA 295 (by decide)) (hA 296 (by decide)) (hA 297 (by decide)) (hA 298 (by decide)) (hA 299 (by decide))) hS ((d6.fr hf (nt 1 (by decide) (by decide)) (nt 2 (by decide) (by decide))).cg (hA 300 (by decide)) (hF 301 (by decide)))
/-- one sheet anew -/
theorem sh_upd (h : SH P ct A) (hC : CS P c lv im tr ct as) {k : Nat} (hk : k < 4) (hf : fr (fun b => b = ct (10 + k) ∨ b = ct (14 + k)) P P') {so z : Int32} {r : Nat → Int32} (hso : so = -1 ∨ so = 0 ∨ so = 1) (hz : ∃ q : Nat, q ≤ 24 ∧ z = nI q) (e1 : gI P' 64 (ct (10 + k)) = so) (e2 : gI P' 65 (ct (10 + k)) = z) (e3 : ∀ j, j < 24 → gX P' (ct (14 + k)) j = r j) (a1 : A' 292 = upd (A 292) k so) (a2 : A' 293 = upd (A 293) k z) (a3 : ∀ i j, i < 4 → j < 24 → A' 294 (24 * i + j) = if i = k then r j else A 294 (24 * i + j)) : SH P' ct A' := by
  refine ⟨fun i hi => ?_, fun i hi => ?_⟩
  · rw [a1, a2]
    by_cases e : i = k
    · subst e; rw [pk_us, pk_us]; exact ⟨hso, hz⟩
    · rw [pk_un e, pk_un e]; exact h.1 i hi
  · rw [a1, a2]
    by_cases e : i = k
    · subst e; rw [pk_us, pk_us]
      refine ⟨e1, e2, fun j hj => ?_⟩
      rw [e3 j hj, a3 i j hi hj, if_pos rfl]
    · have n1 : ¬ (ct (10 + i) = ct (10 + k) ∨ ct (10 + i) = ct (14 + k)) := fun q => by
        rcases q with q | q
        · have := hC.inj (i := 10 + i) (j := 10 + k) (by unfold cIx; omega) (by unfold cIx; omega) q; omega
        · have := hC.inj (i := 10 + i) (j := 14 + k) (by unfold cIx; omega) (by unfold cIx; omega) q; omega
      have n2 : ¬ (ct (14 + i) = ct (10 + k) ∨ ct (14 + i) = ct (14 + k)) := fun q => by
        rcases q with q | q
        · have := hC.inj (i := 14 + i) (j := 10 + k) (by unfold cIx; omega) (by unfold cIx; omega) q; omega
        · have := hC.inj (i := 14 + i) (j := 14 + k) (by unfold cIx; omega) (by unfold cIx; omega) q; omega
      rw [pk_un e, pk_un e, hf.2.1 _ _ n1, hf.2.1 _ _ n1, hf.2.2 _ n2]
      obtain ⟨q1, q2, q3⟩ := h.2 i hi
      refine ⟨q1, q2, fun j hj => ?_⟩
      rw [q3 j hj, a3 i j hi hj, if_neg e]
/-- one slot anew -/
theorem sl_upd (h : SL P ct A) (hC : CS P c lv im tr ct as) {k : Nat} (hk : k < 5) (hf : fr (fun b => b = ct (20 + k) ∨ b = ct (25 + k) ∨ b = ct (30 + k) ∨ b = ct (35 + k)) P P') (a1 : ∀ i, i ≠ k → A' 295 i = A 295 i ∧ A' 296 i = A 296 i ∧ A' 297 i = A 297 i ∧ A' 298 i = A 298 i) (a5 : ∀ i j, i ≠ k → j < 24 → A' 299 (24 * i + j) = A 299 (24 * i + j)) (hH : (A' 295 k = 0 ∨ A' 295 k = 1 ∨ A' 295 k = 2 ∨ A' 295 k = 3) ∧ ∃ z : Nat, z ≤ 24 ∧ A' 298 k = nI z) (hQ : gI P' 96 (ct (20 + k)) = A' 295 k ∧ (A' 295 k = 3 → gI P' 97 (ct (20 + k)) = A' 296 k) ∧ (A' 295 k = 1 → (∃ q : Nat, q ≤ 5 ∧ gI P' 192 (ct (25 + k)) = nI q ∧ A' 296 k = nI q) ∧ fworth (gI P' 192 (ct (25 + k))) (gI P' 194 (ct (25 + k))) (gI P' 195 (ct (25 + k))) = A' 297 k) ∧ (A' 295 k = 2 → gI P' 65 (ct (30 + k)) = A' 298 k ∧ ∀ j, j < 24 → gX P' (ct (35 + k)) j = A' 299 (24 * k + j))) : SL P' ct A' := by
  refine ⟨fun i hi => ?_, fun i hi => ?_⟩
  · by_cases e : i = k
    · subst e; exact hH
    · obtain ⟨b1, b2, b3, b4⟩ := a1 i e
      rw [b1, b4]; exact h.1 i hi
  · by_cases e : i = k
    · subst e; exact hQ
    · obtain ⟨b1, b2, b3, b4⟩ := a1 i e
      have ne : ∀ o, (o = 20 ∨ o = 25 ∨ o = 30 ∨ o = 35) → ¬ (ct (o + i) = ct (20 + k) ∨ ct (o + i) = ct (25 + k) ∨ ct (o + i) = ct (30 + k) ∨ ct (o + i) = ct (35 + k)) := fun o ho q => by
        rcases q with q | q | q | q
        · have := hC.inj (i := o + i) (j := 20 + k) (by unfold cIx; omega) (by unfold cIx; omega) q; omega
        · have := hC.inj (i := o + i) (j := 25 + k) (by unfold cIx; omega) (by unfold cIx; omega) q; omega
        · have := hC.inj (i := o + i) (j := 30 + k) (by unfold cIx; omega) (by unfold cIx; omega) q; omega
        · have := hC.inj (i := o + i) (j := 35 + k) (by unfold cIx; omega) (by unfold cIx; omega) q; omega
      have f1 : ∀ f, gI P' f (ct (20 + i)) = gI P f (ct (20 + i)) := fun f => hf.2.1 _ _ (ne 20 (by omega))
      have f2 : ∀ f, gI P' f (ct (25 + i)) = gI P f (ct (25 + i)) := fun f => hf.2.1 _ _ (ne 25 (by omega))
      have f3 : ∀ f, gI P' f (ct (30 + i)) = gI P f (ct (30 + i)) := fun f => hf.2.1 _ _ (ne 30 (by omega))
      obtain ⟨q1, q2, q3, q4⟩ := h.2 i hi
      rw [f1, f1, f2, f2, f2, f3, hf.2.2 _ (ne 35 (by omega)), b1, b2, b3, b4]
      refine ⟨q1, q2, q3, fun w => ⟨(q4 w).1, fun j hj => ?_⟩⟩
      rw [a5 i j e hj]; exact (q4 w).2 j hj
end OWN
theorem cpy_at (r q : Nat → Int32) (s d n j : Nat) : va_cpy r q s d n j = if d ≤ j ∧ j < d + n then r (s + (j - d)) else q j := by
  unfold va_cpy; rfl
theorem short_c (v : Int32) : (v <<< ((16 : Int32) &&& 31)) >>> ((16 : Int32) &&& 31) = v.toInt16.toInt32 := by
  apply Int32.toBitVec_inj.mp
  rw [Int32.toBitVec_shiftRight, Int32.toBitVec_shiftLeft, Int16.toBitVec_toInt32, Int32.toBitVec_toInt16]
  rw [show ((16 : Int32) &&& 31).toBitVec.smod 32 = 16#32 from by decide]
  apply BitVec.eq_of_getLsbD_eq
  intro i hi
  simp only [BitVec.getLsbD_sshiftRight', BitVec.getLsbD_shiftLeft', BitVec.getLsbD_signExtend, BitVec.msb_eq_getLsbD_last]
  by_cases h : i < 16
  · have a1 : ¬ 32 ≤ i := by omega
    have a2 : i + 16 < 32 := by omega
    have a3 : ¬ i + 16 < 16 := by omega
    simp [h, hi, Nat.add_comm, a1, a2, a3]
  · have a1 : ¬ 32 ≤ i := by omega
    have a2 : ¬ 16 + i < 32 := by omega
    simp [h, hi, a1, a2]
