/-! ===== methods and calls ===== -/
def pP (x : pX) (D : va_G) (cy : Nat → ClassId) (sz : Nat) (av : List Value) (S : pS) : Array Value → State → Prop := fun a U => a = av.toArray ∧ U.heap.size = sz ∧ va_P D vwCl (va_pl (gL S) (pF cy S)) U.heap ∧ va_K D vwCl (tys cy) U ∧ va_D (fun _ => True) (va_pl (gL S) (pF cy S)) ∧ Ext x (va_A (va_pl (gL S) (pF cy S)) sz) U
def pQ (D : va_G) (cy : Nat → ClassId) (sz : Nat) (S : pS) (Q : Option Value → pS → Prop) : Array Value → State → Outcome → State → Prop := fun _ st oc t => (∃ (v : Option Value) (u : pS), oc = .returned v ∧ Q v u ∧ va_P D vwCl (va_pl (gL u) (pF cy u)) t.heap ∧ va_D (va_A (va_pl (gL S) (pF cy S)) sz) (va_pl (gL u) (pF cy u))) ∧ va_F (va_A (va_pl (gL S) (pF cy S)) sz) st t
abbrev mW (M : pM) : List Cond := Cond.code (mY M) (mB M) (mL M) (mR M) :: GW
def mRm (d : Nat) (M : pM) : Room := { frames := d, cells := (mC M).1, slots := (mC M).2, locals := 64 * d }
/-- a method at the pool S with the arguments av comes to its end, with Q of its answer and of the pool then -/
def PM (x : pX) (d : Nat) (M : pM) (av : List Value) (S : pS) (Q : Option Value → pS → Prop) : Prop := ∀ (l : Launch) (D : va_G) (cy : Nat → ClassId) (sz : Nat), Met l (mY M) (mW M) (mRm d M) (pP x D cy sz av S) (pQ D cy sz S Q) (mC M).1 (mC M).2 (va_A (va_pl (gL S) (pF cy S)) sz)
theorem PM_of {x : pX} {d : Nat} {M : pM} {av : List Value} {S : pS} {Q : Option Value → pS → Prop} (hy : plainName (mY M).cls = true) (hn : (lg_sl av).length ≤ mL M) (k : V x d M Q (mC M) 0 (lv_args 0 av) [] S) : PM x d M av S Q := by
  intro l D cy sz
  refine Met.ofW (cc := mB M) (maxL := mL M) (ret := mR M) hy rfl ?_
  intro p e s m args below meth c s₁ B hml hv
  obtain ⟨rfl, hsz, hP, hK, hD0, hE⟩ := hv
  have hts := atoms_spec (ws := mW M) B.pre
  have hown : s.vm.findClass (mY M).cls = some m.cls := findClass_of_methodNamed B.named
  subst hsz
  have hD := hD0.self (sz := s.heap.size)
  have hl := lv_entry av (n := mL M) hn
  rw [lg_entry_eq]
  refine k p l e (mRm d M) s m av.toArray below meth c _ (va_A (va_pl (gL S) (pF cy S)) s.heap.size) D cy ⟨⟨B.exec, B.bytes, hml, hown, fun w h => hts w (List.mem_cons_of_mem _ h)⟩, hK, hE, fun q h => Or.inr h, ⟨Nat.le_refl _, Nat.le_refl _, Nat.le_refl _, Nat.le_refl _⟩, fun h => ((name_of_methodNamed B.named B.method).1).trans h, ?_⟩ s.heap [] 0 0 _ ⟨hP, hD, va_S.rf⟩ (by omega) (by omega) hl
  intro v u H locs cells slots ls pc i hd hr hq hp hc hs
  have hlocks : meth.locks = false := B.notSynchronized
  refine W.widen (k := (mC M).1) (n := (mC M).2) hc hs ?_
  have hz : ∀ t : State, t.heap = H → s.WarmedH t.vm → pQ D cy s.heap.size S Q av.toArray s (.returned v) t := fun t ht hW => ⟨⟨v, u, rfl, hq, by rw [ht]; exact hp.1, hp.2.1⟩, hp.2.2.F ht⟩
  rcases hr with ⟨rfl, r, ty, rfl, h2, h3⟩ | ⟨rfl, rfl, h2⟩ | ⟨rfl, r, ty, rfl, h2, h3⟩
  · exact W.zret (Qc := pQ D cy s.heap.size S Q) B.exec B.bytes (B.returns.trans h2) h3 hz hp.2.2.2.2 hd hlocks
  · exact W.vret (Qc := pQ D cy s.heap.size S Q) B.exec B.bytes (B.returns.trans h2) hz hp.2.2.2.2 hd hlocks
  · exact W.aret (Qc := pQ D cy s.heap.size S Q) B.exec B.bytes (B.returns.trans h2) h3 (va_rf_or r) hz hp.2.2.2.2 hd hlocks
def pops : Nat → List Value → List Value → Option (List Value × List Value)
  | 0, st, acc => some (acc, st)
  | _ + 1, [], _ => none
  | n + 1, v :: st, acc => pops n st (v :: acc)
theorem pops_eq {n : Nat} : ∀ {st acc av r : List Value}, pops n st acc = some (av, r) → av.reverse ++ r = acc.reverse ++ st ∧ av.length = n + acc.length := by
  induction n with
  | zero =>
    intro st acc av r h
    simp only [pops, Option.some.injEq, Prod.mk.injEq] at h
    obtain ⟨rfl, rfl⟩ := h
    exact ⟨rfl, by omega⟩
  | succ n ih =>
    intro st acc av r h
    cases st with
    | nil => simp [pops] at h
    | cons v st =>
      obtain ⟨h1, h2⟩ := ih (show pops n st (v :: acc) = _ from h)
      refine ⟨by rw [h1]; simp, by rw [h2]; simp; omega⟩
section VG
variable {p : Program} {l : Launch} {e : Env} {R : Room} {s : State} {m : MethodId} {args : Array Value} {below : List Frame} {meth : Method} {c : Code} {H : Heap} {locs : List Loc} {cells slots : Nat} {Z : State → Prop}
variable {pc : Nat} {la : Array Slot} {rest st0 : List Value} {a : Array Value} {A0 A1 : Nat → Prop} {H0 : Heap} {mc ms : Nat} {free : Addr → Prop}
theorem va_callg {D : va_G} {cy : Nat → ClassId} {sz : Nat} {S : pS} {Q : Option Value → pS → Prop} (hr : va_Run p l e R s m args below meth c H locs cells slots mc ms (F0 m pc la st0) rest (pQ D cy sz S Q a) free) (hS : va_S A0 H0 H locs) (hA : ∀ q, va_A (va_pl (gL S) (pF cy S)) sz q → A0 q) (hf : ∀ q, free q → A0 q)
    (kk : ∀ (v : Option Value) (u : pS) (H1 : Heap) (locs1 : List Loc), Q v u → va_P D vwCl (va_pl (gL u) (pF cy u)) H1 → va_D A0 (va_pl (gL u) (pF cy u)) → va_S A0 H0 H1 locs1 → W p l e R s m args below meth c H1 locs1 (cells + mc) (slots + ms) Z (F0 m (pc + 3) la (v.toList ++ rest))) : W p l e R s m args below meth c H locs cells slots Z (F0 m pc la st0) := by
  intro T hT X
  obtain ⟨v, st₀, t, T', L, h0, X', hL, e1, e2, ⟨⟨v', u, hv, hp, hb, hd⟩, hz, hk⟩, st⟩ := hr T hT X
  cases hv
  rw [h0] at hz hk
  obtain ⟨t2, a1, b1⟩ := kk v u T'.heap (locs ++ L) hp (by rw [e1]; exact hb) (hd.weaken (fun _ q _ h => hA q.1 h))
    ⟨Nat.le_trans hS.1 (by rw [e1]; exact hz), fun q h1 h2 => by rw [e1, hk q (Nat.lt_of_lt_of_le h1 hS.1) (fun z => h2 (hA q z))]; exact hS.2.1 q h1 h2, fun q hq => by
      rcases List.mem_append.mp hq with h | h
      · exact hS.2.2 q h
      · exact hf _ (hL q h)⟩ T' rfl X'
  exact ⟨t2, st t2 a1, b1⟩
end VG
theorem pP_blind {x : pX} {D : va_G} {cy : Nat → ClassId} {sz : Nat} {av : List Value} {S : pS} : FrameBlind (pP x D cy sz av S) := by
  intro a U g mk h
  obtain ⟨h1, h2, h3, h4, h5, h6⟩ := h
  exact ⟨h1, h2, h3, va_K.moved (u := U) (U := U.calling g mk a) (Vm.Alike.refl U.vm) h4, h5, h6.same rfl rfl⟩
section JC
variable {M : pM} {pc : Nat}
theorem pool_free {A : Nat → Prop} {D : va_G} {cy : Nat → ClassId} {s : State} {S : pS} {H : Heap} {locs : List Loc} (hP : Pool A D cy s S H locs) (hA : ∀ q, s.heap.size ≤ q → A q) : ∀ q, va_A (va_pl (gL S) (pF cy S)) H.size q → A q := by
  intro q h
  rcases h with ⟨k, e, h⟩ | h
  · exact hP.2.1.2 k _ h
  · exact hA q (Nat.le_trans hP.2.2.1 h)
theorem pP_ok {x : pX} {A : Nat → Prop} {D : va_G} {cy : Nat → ClassId} {s : State} {S : pS} {H : Heap} {locs : List Loc} (hP : Pool A D cy s S H locs) (hA : ∀ q, s.heap.size ≤ q → A q) (hK : va_K D vwCl (tys cy) s) (hE : Ext x A s) (av : List Value) : ∀ U : State, U.heap = H → s.WarmedH U.vm → pP x D cy H.size av S av.toArray U := by
  intro U hU hW
  exact ⟨rfl, by rw [hU], by rw [hU]; exact hP.1, hK.moved hW.alike, hP.2.1.weaken (fun _ _ _ _ => trivial), hE.move hP.2.2 (pool_free hP hA) hU hW⟩
/-- what a call's callee must be: its code among the words, not too many locals, the number of its parameters -/
def cOk (M' : pM) (n : Nat) : Prop := Cond.code (mY M') (mB M') (mL M') (mR M') ∈ GW ∧ mL M' ≤ 45 ∧ Cond.initialized (mY M').cls ∈ GW ∧ ((mY M').cls ≠ "java/lang/invoke/MethodHandle" ∧ (mY M').cls ≠ "java/lang/invoke/VarHandle" ∧ (parseMethodDescriptor (mY M').desc).map (fun d => d.parameters.length) = some n)
def tq_call (M' : pM) (n : Nat) : tr := fun x d b ls st S K => match d with
  | 0 => False
  | d' + 1 => match pops n st [] with
    | some (av, r) => (cats r ≤ 8 ∧ (mC M').1 ≤ b.1 ∧ (mC M').2 ≤ b.2) ∧ PM x d' M' av S (fun v u => K (b.1 - (mC M').1, b.2 - (mC M').2) ls (v.toList ++ r) u)
    | none => False
theorem J_cS {M' : pM} {i n : Nat} (hd : decode (mB M) pc = .ok (.invokestatic i, 3)) (hc : cOk M' n) (hw : Cond.methodLink (mY M).cls i (mY M') ∈ GW) (hw2 : Cond.static (mY M') ∈ GW) : J M pc (pc + 3) (tq_call M' n) := by
  intro x d Q b ls st S K hK h
  unfold tq_call at h
  split at h
  · exact h.elim
  · rename_i d'
    split at h
    · rename_i av r hp
      obtain ⟨⟨o1, o2, o3⟩, h⟩ := h
      obtain ⟨e1, e2⟩ := pops_eq hp
      simp only [List.reverse_nil, List.nil_append, List.length_nil, Nat.add_zero] at e1 e2
      intro p l e R s m args below meth c Z A D cy C H locs cells slots la hP h1 h2 hl
      have hR := C.2.2.2.2.1
      have cw := callB_of (R := R) (rm := mRm d' M') (mc := (mC M').1) (ms := (mC M').2) n C.1.2.2.2.2 (GW_good hc.1) rfl rfl rfl (C.1.2.2.2.2 _ hc.2.2.1) (C.1.2.2.2.2 _ hw) hc.2.2.2 ⟨by show d' + 1 ≤ _; omega, by show 8 + (mL M' + 11) + 64 * d' ≤ _; have := hc.2.1; omega⟩
      refine va_callg (va_runS (As := av) (rest := r) (g := F0 m pc la st) C.1 (h l D cy H.size) ⟨cw, C.1.2.2.2.2 _ hw2⟩ ⟨pP_blind, pP_ok hP C.2.2.2.1 C.2.1 C.2.2.1 av⟩ rfl e2 hl.1 e1.symm (by unfold cats at o1; exact lv_room o1) hd ⟨by omega, by omega⟩) hP.2.2 (pool_free hP C.2.2.2.1) (pool_free hP C.2.2.2.1) (fun v u H1 locs1 q1 p1 d1 s1 => ?_)
      exact hK _ _ _ _ q1 p l e R s m args below meth c Z A D cy C H1 locs1 _ _ la ⟨p1, d1, s1⟩ (show cells + (mC M').1 + (b.1 - (mC M').1) ≤ _ by omega) (show slots + (mC M').2 + (b.2 - (mC M').2) ≤ _ by omega) hl
    · exact h.elim
theorem J_cSN {M' : pM} {i n : Nat} (hd : decode (mB M) pc = .ok (.invokestatic i, 3)) (hc : cOk M' n) (hw : ((mY M).cls, i, mY M') ∈ nestM) (hw2 : Cond.static (mY M') ∈ GW) : J M pc (pc + 3) (tq_call M' n) := by
  intro x d Q b ls st S K hK h
  unfold tq_call at h
  split at h
  · exact h.elim
  · rename_i d'
    split at h
    · rename_i av r hp
      obtain ⟨⟨o1, o2, o3⟩, h⟩ := h
      obtain ⟨e1, e2⟩ := pops_eq hp
      simp only [List.reverse_nil, List.nil_append, List.length_nil, Nat.add_zero] at e1 e2
      intro p l e R s m args below meth c Z A D cy C H locs cells slots la hP h1 h2 hl
      have hR := C.2.2.2.2.1
      have cw := va_cnB (R := R) (rm := mRm d' M') (mc := (mC M').1) (ms := (mC M').2) n C.1.2.2.2.2 (GW_good hc.1) rfl rfl rfl (C.2.2.1.2.2.2.2.2.1 _ hw) (C.1.2.2.2.2 _ hc.2.2.1) hc.2.2.2 ⟨by show d' + 1 ≤ _; omega, by show 8 + (mL M' + 11) + 64 * d' ≤ _; have := hc.2.1; omega⟩
      refine va_callg (va_runSN (As := av) (rest := r) (g := F0 m pc la st) C.1 (h l D cy H.size) ⟨cw, C.1.2.2.2.2 _ hw2, trivial⟩ ⟨pP_blind, pP_ok hP C.2.2.2.1 C.2.1 C.2.2.1 av⟩ rfl e2 hl.1 e1.symm (by unfold cats at o1; exact lv_room o1) hd ⟨by omega, by omega⟩) hP.2.2 (pool_free hP C.2.2.2.1) (pool_free hP C.2.2.2.1) (fun v u H1 locs1 q1 p1 d1 s1 => ?_)
      exact hK _ _ _ _ q1 p l e R s m args below meth c Z A D cy C H1 locs1 _ _ la ⟨p1, d1, s1⟩ (show cells + (mC M').1 + (b.1 - (mC M').1) ≤ _ by omega) (show slots + (mC M').2 + (b.2 - (mC M').2) ≤ _ by omega) hl
    · exact h.elim
/-- a call of an object's method: the receiver is one of the pool's, of the kind k -/
def tq_cv (M' : pM) (n k : Nat) : tr := fun x d b ls st S K => match d with
  | 0 => False
  | d' + 1 => match pops (n + 1) st [] with
    | some (.ref a :: av, r) => (hk S a k ∧ cats r ≤ 8 ∧ (mC M').1 ≤ b.1 ∧ (mC M').2 ≤ b.2) ∧ PM x d' M' (.ref a :: av) S (fun v u => K (b.1 - (mC M').1, b.2 - (mC M').2) ls (v.toList ++ r) u)
    | _ => False
theorem J_cV {M' : pM} {i n k : Nat} (hd : decode (mB M) pc = .ok (.invokevirtual i, 3)) (hc : cOk M' n) (h10 : k < 10) (hk0 : (mY M').cls = RF k) (hw : Cond.methodLink (mY M).cls i (mY M') ∈ GW) (hw2 : Cond.instanceMethod (mY M') ∈ GW) (hw3 : Cond.selects (RF k) (mY M') (mY M') ∈ GW) : J M pc (pc + 3) (tq_cv M' n k) := by
  intro x d Q b ls st S K hK h
  unfold tq_cv at h
  split at h
  · exact h.elim
  · rename_i d'
    split at h
    · rename_i a av r hp
      obtain ⟨⟨ho, o1, o2, o3⟩, h⟩ := h
      obtain ⟨e1, e2⟩ := pops_eq hp
      simp only [List.reverse_nil, List.nil_append, List.length_nil, Nat.add_zero, List.reverse_cons, List.append_assoc, List.singleton_append, List.length_cons] at e1 e2
      intro p l e R s m args below meth c Z A D cy C H locs cells slots la hP h1 h2 hl
      have hR := C.2.2.2.2.1
      have cw := callB_of (R := R) (rm := mRm d' M') (mc := (mC M').1) (ms := (mC M').2) n C.1.2.2.2.2 (GW_good hc.1) rfl rfl rfl (C.1.2.2.2.2 _ hc.2.2.1) (C.1.2.2.2.2 _ hw) hc.2.2.2 ⟨by show d' + 1 ≤ _; omega, by show 8 + (mL M' + 11) + 64 * d' ≤ _; have := hc.2.1; omega⟩
      obtain ⟨q, hq, hq2⟩ := pl_obj (cy := cy) ho h10
      refine va_callg (va_runV (C := RF k) (As := av) (rest := r) (g := F0 m pc la st) C.1 (h l D cy H.size) ⟨cw, C.1.2.2.2.2 _ hw2, C.1.2.2.2.2 _ hw3⟩ ⟨pP_blind, va_recv C.2.1 hP.1 (F_cl _ h10) hq2, pP_ok hP C.2.2.2.1 C.2.1 C.2.2.1 (.ref a :: av)⟩ rfl (by omega) hl.1 e1.symm (by unfold cats at o1; exact lv_room o1) hd ⟨by omega, by omega⟩) hP.2.2 (pool_free hP C.2.2.2.1) (pool_free hP C.2.2.2.1) (fun v u H1 locs1 q1 p1 d1 s1 => ?_)
      exact hK _ _ _ _ q1 p l e R s m args below meth c Z A D cy C H1 locs1 _ _ la ⟨p1, d1, s1⟩ (show cells + (mC M').1 + (b.1 - (mC M').1) ≤ _ by omega) (show slots + (mC M').2 + (b.2 - (mC M').2) ≤ _ by omega) hl
    · exact h.elim
/-- a call of a method of an object outside the pool -/
def tq_cvx (M' : pM) (n : Nat) (k : String) : tr := fun x d b ls st S K => match d with
  | 0 => False
  | d' + 1 => match pops (n + 1) st [] with
    | some (.ref a :: av, r) => ((k, a) ∈ x.2.2.2.1 ∧ cats r ≤ 8 ∧ (mC M').1 ≤ b.1 ∧ (mC M').2 ≤ b.2) ∧ PM x d' M' (.ref a :: av) S (fun v u => K (b.1 - (mC M').1, b.2 - (mC M').2) ls (v.toList ++ r) u)
    | _ => False
theorem J_cVx {M' : pM} {i n : Nat} {k : String} (hd : decode (mB M) pc = .ok (.invokevirtual i, 3)) (hc : cOk M' n) (hk0 : (mY M').cls = k) (hw : Cond.methodLink (mY M).cls i (mY M') ∈ GW) (hw2 : Cond.instanceMethod (mY M') ∈ GW) (hw3 : Cond.selects k (mY M') (mY M') ∈ GW) : J M pc (pc + 3) (tq_cvx M' n k) := by
  intro x d Q b ls st S K hK h
  unfold tq_cvx at h
  split at h
  · exact h.elim
  · rename_i d'
    split at h
    · rename_i a av r hp
      obtain ⟨⟨ho, o1, o2, o3⟩, h⟩ := h
      obtain ⟨e1, e2⟩ := pops_eq hp
      simp only [List.reverse_nil, List.nil_append, List.length_nil, Nat.add_zero, List.reverse_cons, List.append_assoc, List.singleton_append, List.length_cons] at e1 e2
      intro p l e R s m args below meth c Z A D cy C H locs cells slots la hP h1 h2 hl
      have hR := C.2.2.2.2.1
      have cw := callB_of (R := R) (rm := mRm d' M') (mc := (mC M').1) (ms := (mC M').2) n C.1.2.2.2.2 (GW_good hc.1) rfl rfl rfl (C.1.2.2.2.2 _ hc.2.2.1) (C.1.2.2.2.2 _ hw) hc.2.2.2 ⟨by show d' + 1 ≤ _; omega, by show 8 + (mL M' + 11) + 64 * d' ≤ _; have := hc.2.1; omega⟩
      obtain ⟨cell, g1, g2, g3, -⟩ := ((C.2.2.1.2.2.2.1 _ ho).kept hP.2.2.2.1)
      refine va_callg (va_runV (C := k) (As := av) (rest := r) (g := F0 m pc la st) C.1 (h l D cy H.size) ⟨cw, C.1.2.2.2.2 _ hw2, C.1.2.2.2.2 _ hw3⟩ ⟨pP_blind, ⟨cell, g1, g2, g3⟩, pP_ok hP C.2.2.2.1 C.2.1 C.2.2.1 (.ref a :: av)⟩ rfl (by omega) hl.1 e1.symm (by unfold cats at o1; exact lv_room o1) hd ⟨by omega, by omega⟩) hP.2.2 (pool_free hP C.2.2.2.1) (pool_free hP C.2.2.2.1) (fun v u H1 locs1 q1 p1 d1 s1 => ?_)
      exact hK _ _ _ _ q1 p l e R s m args below meth c Z A D cy C H1 locs1 _ _ la ⟨p1, d1, s1⟩ (show cells + (mC M').1 + (b.1 - (mC M').1) ≤ _ by omega) (show slots + (mC M').2 + (b.2 - (mC M').2) ≤ _ by omega) hl
    · exact h.elim
/-- a call of a constructor -/
def tq_ci2 (M' : pM) (n : Nat) : tr := fun x d b ls st S K => match d with
  | 0 => False
  | d' + 1 => match pops (n + 1) st [] with
    | some (.ref a :: av, r) => (cats r ≤ 8 ∧ (mC M').1 ≤ b.1 ∧ (mC M').2 ≤ b.2) ∧ PM x d' M' (.ref a :: av) S (fun v u => K (b.1 - (mC M').1, b.2 - (mC M').2) ls (v.toList ++ r) u)
    | _ => False
theorem J_cI {M' : pM} {i n : Nat} (hd : decode (mB M) pc = .ok (.invokespecial i, 3)) (hc : cOk M' n) (hr : mR M' = none) (hy : (mY M').name = "<init>") (hw : Cond.methodLink (mY M).cls i (mY M') ∈ GW) (hw2 : Cond.instanceMethod (mY M') ∈ GW) : J M pc (pc + 3) (tq_ci2 M' n) := by
  intro x d Q b ls st S K hK h
  unfold tq_ci2 at h
  split at h
  · exact h.elim
  · rename_i d'
    split at h
    · rename_i a av r hp
      obtain ⟨⟨o1, o2, o3⟩, h⟩ := h
      obtain ⟨e1, e2⟩ := pops_eq hp
      simp only [List.reverse_nil, List.nil_append, List.length_nil, Nat.add_zero, List.reverse_cons, List.append_assoc, List.singleton_append, List.length_cons] at e1 e2
      intro p l e R s m args below meth c Z A D cy C H locs cells slots la hP h1 h2 hl
      have hR := C.2.2.2.2.1
      have cw := callB_of (R := R) (rm := mRm d' M') (ret := none) (mc := (mC M').1) (ms := (mC M').2) n C.1.2.2.2.2 (ws := mW M') (GW_good hc.1) (show mW M' = _ by rw [← hr]) rfl rfl (C.1.2.2.2.2 _ hc.2.2.1) (C.1.2.2.2.2 _ hw) hc.2.2.2 ⟨by show d' + 1 ≤ _; omega, by show 8 + (mL M' + 11) + 64 * d' ≤ _; have := hc.2.1; omega⟩
      refine va_callg (va_runI (As := av) (rest := r) (g := F0 m pc la st) C.1 (h l D cy H.size) ⟨cw, hy, C.1.2.2.2.2 _ hw2⟩ ⟨pP_blind, pP_ok hP C.2.2.2.1 C.2.1 C.2.2.1 (.ref a :: av)⟩ rfl (by omega) hl.1 e1.symm (by unfold cats at o1; exact lv_room o1) hd ⟨by omega, by omega⟩) hP.2.2 (pool_free hP C.2.2.2.1) (pool_free hP C.2.2.2.1) (fun v u H1 locs1 q1 p1 d1 s1 => ?_)
      exact hK _ _ _ _ q1 p l e R s m args below meth c Z A D cy C H1 locs1 _ _ la ⟨p1, d1, s1⟩ (show cells + (mC M').1 + (b.1 - (mC M').1) ≤ _ by omega) (show slots + (mC M').2 + (b.2 - (mC M').2) ≤ _ by omega) hl
    · exact h.elim
theorem J_cIN {M' : pM} {i n : Nat} (hd : decode (mB M) pc = .ok (.invokespecial i, 3)) (hc : cOk M' n) (hr : mR M' = none) (hy : (mY M').name = "<init>") (hw : ((mY M).cls, i, mY M') ∈ nestM) (hw2 : Cond.instanceMethod (mY M') ∈ GW) : J M pc (pc + 3) (tq_ci2 M' n) := by
  intro x d Q b ls st S K hK h
  unfold tq_ci2 at h
  split at h
  · exact h.elim
  · rename_i d'
    split at h
    · rename_i a av r hp
      obtain ⟨⟨o1, o2, o3⟩, h⟩ := h
      obtain ⟨e1, e2⟩ := pops_eq hp
      simp only [List.reverse_nil, List.nil_append, List.length_nil, Nat.add_zero, List.reverse_cons, List.append_assoc, List.singleton_append, List.length_cons] at e1 e2
      intro p l e R s m args below meth c Z A D cy C H locs cells slots la hP h1 h2 hl
      have hR := C.2.2.2.2.1
      have cw := va_cnB (R := R) (rm := mRm d' M') (ret := none) (mc := (mC M').1) (ms := (mC M').2) n C.1.2.2.2.2 (ws := mW M') (GW_good hc.1) (show mW M' = _ by rw [← hr]) rfl rfl (C.2.2.1.2.2.2.2.2.1 _ hw) (C.1.2.2.2.2 _ hc.2.2.1) hc.2.2.2 ⟨by show d' + 1 ≤ _; omega, by show 8 + (mL M' + 11) + 64 * d' ≤ _; have := hc.2.1; omega⟩
      refine va_callg (va_runIN (As := av) (rest := r) (g := F0 m pc la st) C.1 (h l D cy H.size) ⟨cw, hy, C.1.2.2.2.2 _ hw2⟩ ⟨pP_blind, pP_ok hP C.2.2.2.1 C.2.1 C.2.2.1 (.ref a :: av)⟩ rfl (by omega) hl.1 e1.symm (by unfold cats at o1; exact lv_room o1) hd ⟨by omega, by omega⟩) hP.2.2 (pool_free hP C.2.2.2.1) (pool_free hP C.2.2.2.1) (fun v u H1 locs1 q1 p1 d1 s1 => ?_)
      exact hK _ _ _ _ q1 p l e R s m args below meth c Z A D cy C H1 locs1 _ _ la ⟨p1, d1, s1⟩ (show cells + (mC M').1 + (b.1 - (mC M').1) ≤ _ by omega) (show slots + (mC M').2 + (b.2 - (mC M').2) ≤ _ by omega) hl
    · exact h.elim
end JC

