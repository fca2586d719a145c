/-! ===== the judgement V: the machine at a place of a method, over the pool ===== -/
abbrev pM : Type := ByteArray × Nat × Option FieldType × MethodName × (Nat × Nat)
abbrev mB (M : pM) : ByteArray := M.1
abbrev mL (M : pM) : Nat := M.2.1
abbrev mR (M : pM) : Option FieldType := M.2.2.1
abbrev mY (M : pM) : MethodName := M.2.2.2.1
abbrev mC (M : pM) : Nat × Nat := M.2.2.2.2
/-- what lies outside the pool, and never changes: statics, fields of objects, arrays, objects of a class, String constants -/
abbrev pX : Type := List (String × String × String × Value) × List (String × String × String × Value × Nat) × List (FieldType × Nat × Nat × (Nat → Value)) × List (String × Nat) × List (String × Nat × String × Nat)
def nestM : List (String × Nat × MethodName) := [(RX7, 23, yX0_init), (RX7, 42, yX6_init), (RX8, 24, yX1_init), (RX1, 11, yX4_init), (RX8, 50, yX2_init), (RX8, 51, yX3_init), (RX3, 17, yX6_init), (RX3, 24, yX2_init), (RX7, 144, yX8_held), (RX7, 105, yX8_within), (RX0, 29, yX8_within), (RX1, 82, yX8_within), (RX2, 19, yX8_held), (RX2, 43, yX8_within)]
def Ext (x : pX) (A : Nat → Prop) (U : State) : Prop :=
  (∀ q ∈ x.1, va_Z q.1 q.2.1 q.2.2.1 q.2.2.2 A U U.heap) ∧ (∀ q ∈ x.2.1, va_OF q.1 q.2.1 q.2.2.1 q.2.2.2.1 q.2.2.2.2 A U U.heap) ∧ (∀ q ∈ x.2.2.1, va_T q.1 q.2.1 q.2.2.1 q.2.2.2 A U U.heap) ∧ (∀ q ∈ x.2.2.2.1, va_O q.1 q.2 A U U.heap) ∧ (∀ q ∈ x.2.2.2.2, vk_R q.1 q.2.1 q.2.2.1 q.2.2.2 U) ∧
  (∀ q ∈ nestM, va_Nw (.methodLinkNest q.1 q.2.1 q.2.2 RX8) U) ∧ va_Nw (.fieldLinkNest RX6 24 RX8 "ABOVE" "[I" RX8) U ∧ (∀ k : Nat, 10 < k → k < 15 → va_AO (aC k) U)
theorem Ext.move {x : pX} {A A' : Nat → Prop} {s U : State} {H : Heap} {locs : List Loc} (h : Ext x A s) (hS : va_S A s.heap H locs) (hA : ∀ q, A' q → A q) (hU : U.heap = H) (hW : s.WarmedH U.vm) : Ext x A' U := by
  obtain ⟨h1, h2, h3, h4, h5, h6, h7, h8⟩ := h
  subst hU
  exact ⟨fun q hq => (((h1 q hq).kept hS.2.1).narrow hA).moved hW.alike, fun q hq => (((h2 q hq).kept hS.2.1).narrow hA).moved hW.alike, fun q hq => (((h3 q hq).kept hS.2.1).narrow hA).moved hW.alike, fun q hq => (((h4 q hq).kept hS.2.1).narrow hA).moved hW.alike, fun q hq => (h5 q hq).warm hW, fun q hq => (h6 q hq).warmM hW, h7.warmF hW, fun k a b => (h8 k a b).moved hW.alike⟩
theorem Ext.same {x : pX} {A : Nat → Prop} {u U : State} (h : Ext x A u) (hv : U.vm = u.vm) (hh : U.heap = u.heap) : Ext x A U := by
  obtain ⟨h1, h2, h3, h4, h5, h6, h7, h8⟩ := h
  have ha : u.vm.Alike U.vm := by rw [hv]; exact Vm.Alike.refl _
  exact ⟨fun q hq => by rw [hh]; exact (h1 q hq).moved ha, fun q hq => by rw [hh]; exact (h2 q hq).moved ha, fun q hq => by rw [hh]; exact (h3 q hq).moved ha, fun q hq => by rw [hh]; exact (h4 q hq).moved ha, fun q hq => (h5 q hq).same hv, fun q hq => va_Nw.same rfl hv.symm (h6 q hq), va_Nw.same rfl hv.symm h7, fun k a b => (h8 k a b).moved ha⟩
def Pool (A : Nat → Prop) (D : va_G) (cy : Nat → ClassId) (s : State) (S : pS) (H : Heap) (locs : List Loc) : Prop := va_P D vwCl (va_pl (gL S) (pF cy S)) H ∧ va_D A (va_pl (gL S) (pF cy S)) ∧ va_S A s.heap H locs
def rtn (M : pM) (i : Instr) (v : Option Value) : Prop :=
  (i = .ireturn ∧ ∃ (r : Int32) (ty : FieldType), v = some (.int r) ∧ mR M = some ty ∧ narrow ty (.int r) = .int r) ∨ (i = .return_ ∧ v = none ∧ mR M = none) ∨ (i = .areturn ∧ ∃ (r : Option Nat) (ty : FieldType), v = some (va_rf r) ∧ mR M = some ty ∧ ((∃ n, ty = .object n) ∨ ∃ t, ty = .array t))
def Cx (x : pX) (d : Nat) (M : pM) (Q : Option Value → pS → Prop) (p : Program) (l : Launch) (e : Env) (R : Room) (s : State) (m : MethodId) (args : Array Value) (below : List Frame) (meth : Method) (c : Code) (Z : State → Prop) (A : Nat → Prop) (D : va_G) (cy : Nat → ClassId) : Prop :=
  CallFix p m c (mB M) (mL M) s args GW (mY M).cls ∧ va_K D vwCl (tys cy) s ∧ Ext x A s ∧ (∀ q, s.heap.size ≤ q → A q) ∧ (d ≤ R.frames ∧ 64 * d ≤ R.locals ∧ (mC M).1 ≤ R.cells ∧ (mC M).2 ≤ R.slots) ∧ ((mY M).name = "<init>" → meth.name = "<init>") ∧
  ∀ (v : Option Value) (S : pS) (H : Heap) (locs : List Loc) (cells slots : Nat) (ls : Array Slot) (pc : Nat) (i : Instr), decode (mB M) pc = .ok (i, 1) → rtn M i v → Q v S → Pool A D cy s S H locs → cells ≤ (mC M).1 → slots ≤ (mC M).2 → W p l e R s m args below meth c H locs cells slots Z (F0 m pc ls v.toList)
def V (x : pX) (d : Nat) (M : pM) (Q : Option Value → pS → Prop) (b : Nat × Nat) (pc : Nat) (ls : List (Nat × Value)) (st : List Value) (S : pS) : Prop :=
  ∀ (p : Program) (l : Launch) (e : Env) (R : Room) (s : State) (m : MethodId) (args : Array Value) (below : List Frame) (meth : Method) (c : Code) (Z : State → Prop) (A : Nat → Prop) (D : va_G) (cy : Nat → ClassId), Cx x d M Q p l e R s m args below meth c Z A D cy →
  ∀ (H : Heap) (locs : List Loc) (cells slots : Nat) (la : Array Slot), Pool A D cy s S H locs → cells + b.1 ≤ (mC M).1 → slots + b.2 ≤ (mC M).2 → lv_has la (mL M) ls → W p l e R s m args below meth c H locs cells slots Z (F0 m pc la st)
abbrev pK : Type := Nat × Nat → List (Nat × Value) → List Value → pS → Prop
abbrev tr : Type := pX → Nat → Nat × Nat → List (Nat × Value) → List Value → pS → pK → Prop
abbrev tb : Type := pX → Nat → Nat × Nat → List (Nat × Value) → List Value → pS → (Nat → pK) → (Option Value → pS → Prop) → Prop
def sq (f g : tr) : tr := fun x d b ls st S K => f x d b ls st S (fun b ls st S => g x d b ls st S K)
def sqb (f : tr) (g : tb) : tb := fun x d b ls st S K Q => f x d b ls st S (fun b ls st S => g x d b ls st S K Q)
/-- a stretch from pc to pc' -/
def J (M : pM) (pc pc' : Nat) (f : tr) : Prop := ∀ (x : pX) (d : Nat) (Q : Option Value → pS → Prop) (b : Nat × Nat) (ls : List (Nat × Value)) (st : List Value) (S : pS) (K : pK), (∀ b ls st S, K b ls st S → V x d M Q b pc' ls st S) → f x d b ls st S K → V x d M Q b pc ls st S
/-- a block from pc on, to its exits -/
def JB (M : pM) (pc : Nat) (f : tb) : Prop := ∀ (x : pX) (d : Nat) (Q : Option Value → pS → Prop) (b : Nat × Nat) (ls : List (Nat × Value)) (st : List Value) (S : pS) (K : Nat → pK), (∀ pc' b ls st S, K pc' b ls st S → V x d M Q b pc' ls st S) → f x d b ls st S K Q → V x d M Q b pc ls st S
theorem JB.go {M : pM} {pc : Nat} {f : tb} (h : JB M pc f) {x : pX} {d : Nat} {Q : Option Value → pS → Prop} {b : Nat × Nat} {ls : List (Nat × Value)} {st : List Value} {S : pS} (k : f x d b ls st S (fun pc' b ls st S => V x d M Q b pc' ls st S) Q) : V x d M Q b pc ls st S := h x d Q b ls st S _ (fun _ _ _ _ _ q => q) k
def tX (pc : Nat) : tb := fun _ _ b ls st S K _ => K pc b ls st S
theorem J_x {M : pM} {pc : Nat} : JB M pc (tX pc) := fun _ _ _ _ _ _ _ _ hK h => hK _ _ _ _ _ h
/-! locals: a list in the order of the places -/
def lg : List (Nat × Value) → Nat → Option Value
  | [], _ => none
  | q :: r, i => if q.1 = i then some q.2 else lg r i
def c2 (v : Value) : Bool := match v with
  | .long _ => true
  | .double _ => true
  | _ => false
def lup (i : Nat) (v : Value) : List (Nat × Value) → List (Nat × Value)
  | [] => [(i, v)]
  | q :: r => if c2 q.2 then lup i v r else if q.1 = i then (i, v) :: r.filter (fun q => !c2 q.2 && !(q.1 == i)) else if q.1 < i then q :: lup i v r else (i, v) :: q :: r.filter (fun q => !c2 q.2 && !(q.1 == i))
theorem lg_mem {ls : List (Nat × Value)} {i : Nat} {v : Value} (h : lg ls i = some v) : (i, v) ∈ ls := by
  induction ls with
  | nil => cases h
  | cons q r ih =>
    unfold lg at h
    split at h
    · rename_i h1
      cases h
      subst h1
      exact List.mem_cons_self
    · exact List.mem_cons_of_mem _ (ih h)
theorem lup_mem {ls : List (Nat × Value)} {i : Nat} {v : Value} {q : Nat × Value} (h : q ∈ lup i v ls) : q = (i, v) ∨ (q ∈ ls ∧ q.1 ≠ i ∧ c2 q.2 = false) := by
  induction ls with
  | nil =>
    simp only [lup, List.mem_singleton] at h
    exact Or.inl h
  | cons a r ih =>
    unfold lup at h
    split at h
    · rcases ih h with h1 | h1
      · exact Or.inl h1
      · exact Or.inr ⟨List.mem_cons_of_mem _ h1.1, h1.2⟩
    · rename_i hc
      split at h
      · rcases List.mem_cons.mp h with h1 | h1
        · exact Or.inl h1
        · have h2 := List.mem_filter.mp h1
          simp at h2
          exact Or.inr ⟨List.mem_cons_of_mem _ h2.1, h2.2.2, h2.2.1⟩
      · rename_i hi
        split at h
        · rcases List.mem_cons.mp h with h1 | h1
          · subst h1
            exact Or.inr ⟨List.mem_cons_self, hi, by simpa using hc⟩
          · rcases ih h1 with h2 | h2
            · exact Or.inl h2
            · exact Or.inr ⟨List.mem_cons_of_mem _ h2.1, h2.2⟩
        · rcases List.mem_cons.mp h with h1 | h1
          · exact Or.inl h1
          · rcases List.mem_cons.mp h1 with h2 | h2
            · subst h2
              exact Or.inr ⟨List.mem_cons_self, hi, by simpa using hc⟩
            · have h3 := List.mem_filter.mp h2
              simp at h3
              exact Or.inr ⟨List.mem_cons_of_mem _ h3.1, h3.2.2, h3.2.1⟩
theorem c2_cat {v : Value} (h : c2 v = false) : v.category ≠ 2 := by
  cases v <;> simp_all [c2, Value.category]
theorem lup_has {la : Array Slot} {nL : Nat} {ls : List (Nat × Value)} {i : Nat} {v : Value} (h : lv_has la nL ((i, v) :: ls.filter (fun q => !(q.1 == i) && !(q.1 + 1 == i && q.2.category == 2)))) : lv_has la nL (lup i v ls) := by
  refine ⟨h.1, h.2.1, fun q hq => h.2.2 q ?_⟩
  rcases lup_mem hq with h1 | ⟨h1, h2, h3⟩
  · subst h1
    exact List.mem_cons_self
  · refine List.mem_cons_of_mem _ (List.mem_filter.mpr ⟨h1, ?_⟩)
    have h4 := c2_cat h3
    simp [h2, h4]
theorem lg_at {la : Array Slot} {nL : Nat} {ls : List (Nat × Value)} {i : Nat} {v : Value} (h : lv_has la nL ls) (hg : lg ls i = some v) : la[i]? = some (.val v) := h.2.2 (i, v) (lg_mem hg)
theorem V_lw {x : pX} {d : Nat} {M : pM} {Q : Option Value → pS → Prop} {b : Nat × Nat} {pc : Nat} {ls ls' : List (Nat × Value)} {st : List Value} {S : pS} (hs : ∀ q ∈ ls', q ∈ ls) (k : V x d M Q b pc ls' st S) : V x d M Q b pc ls st S :=
  fun p l e R s m args below meth c Z A D cy C H locs cells slots la hP h1 h2 hl => k p l e R s m args below meth c Z A D cy C H locs cells slots la hP h1 h2 ⟨hl.1, hl.2.1, fun q hq => hl.2.2 q (hs q hq)⟩
section JJ
variable {M : pM} {pc pc1 pc2 : Nat}
theorem J_sq {f g : tr} (h1 : J M pc pc1 f) (h2 : J M pc1 pc2 g) : J M pc pc2 (sq f g) := fun x d Q b ls st S K hK h => h1 x d Q b ls st S _ (fun b ls st S q => h2 x d Q b ls st S K hK q) h
theorem J_sqb {f : tr} {g : tb} (h1 : J M pc pc1 f) (h2 : JB M pc1 g) : JB M pc (sqb f g) := fun x d Q b ls st S K hK h => h1 x d Q b ls st S _ (fun b ls st S q => h2 x d Q b ls st S K hK q) h

def tq_iadd : tr := fun _ _ b ls st S K => match st with
  | .int v :: .int u :: r => K b ls (.int (u + v) :: r) S
  | _ => False
theorem J_iadd (hd : decode (mB M) pc = .ok (.iadd, 1)) : J M pc (pc + 1) tq_iadd := by
  intro x d Q b ls st S K hK h
  unfold tq_iadd at h
  split at h
  · have k := hK _ _ _ _ h
    intro p l e R s m args below meth c Z A D cy C H locs cells slots la hP h1 h2 hl
    exact lv_iadd C.1.1 C.1.2.1 hd (k p l e R s m args below meth c Z A D cy C H locs cells slots la hP h1 h2 hl)
  · exact h.elim
def tq_isub : tr := fun _ _ b ls st S K => match st with
  | .int v :: .int u :: r => K b ls (.int (u - v) :: r) S
  | _ => False
theorem J_isub (hd : decode (mB M) pc = .ok (.isub, 1)) : J M pc (pc + 1) tq_isub := by
  intro x d Q b ls st S K hK h
  unfold tq_isub at h
  split at h
  · have k := hK _ _ _ _ h
    intro p l e R s m args below meth c Z A D cy C H locs cells slots la hP h1 h2 hl
    exact lv_isub C.1.1 C.1.2.1 hd (k p l e R s m args below meth c Z A D cy C H locs cells slots la hP h1 h2 hl)
  · exact h.elim
def tq_imul : tr := fun _ _ b ls st S K => match st with
  | .int v :: .int u :: r => K b ls (.int (u * v) :: r) S
  | _ => False
theorem J_imul (hd : decode (mB M) pc = .ok (.imul, 1)) : J M pc (pc + 1) tq_imul := by
  intro x d Q b ls st S K hK h
  unfold tq_imul at h
  split at h
  · have k := hK _ _ _ _ h
    intro p l e R s m args below meth c Z A D cy C H locs cells slots la hP h1 h2 hl
    exact lv_imul C.1.1 C.1.2.1 hd (k p l e R s m args below meth c Z A D cy C H locs cells slots la hP h1 h2 hl)
  · exact h.elim
def tq_iand : tr := fun _ _ b ls st S K => match st with
  | .int v :: .int u :: r => K b ls (.int (u &&& v) :: r) S
  | _ => False
theorem J_iand (hd : decode (mB M) pc = .ok (.iand, 1)) : J M pc (pc + 1) tq_iand := by
  intro x d Q b ls st S K hK h
  unfold tq_iand at h
  split at h
  · have k := hK _ _ _ _ h
    intro p l e R s m args below meth c Z A D cy C H locs cells slots la hP h1 h2 hl
    exact lv_iand C.1.1 C.1.2.1 hd (k p l e R s m args below meth c Z A D cy C H locs cells slots la hP h1 h2 hl)
  · exact h.elim
def tq_ior : tr := fun _ _ b ls st S K => match st with
  | .int v :: .int u :: r => K b ls (.int (u ||| v) :: r) S
  | _ => False
theorem J_ior (hd : decode (mB M) pc = .ok (.ior, 1)) : J M pc (pc + 1) tq_ior := by
  intro x d Q b ls st S K hK h
  unfold tq_ior at h
  split at h
  · have k := hK _ _ _ _ h
    intro p l e R s m args below meth c Z A D cy C H locs cells slots la hP h1 h2 hl
    exact lv_ior C.1.1 C.1.2.1 hd (k p l e R s m args below meth c Z A D cy C H locs cells slots la hP h1 h2 hl)
  · exact h.elim
def tq_ixor : tr := fun _ _ b ls st S K => match st with
  | .int v :: .int u :: r => K b ls (.int (u ^^^ v) :: r) S
  | _ => False
theorem J_ixor (hd : decode (mB M) pc = .ok (.ixor, 1)) : J M pc (pc + 1) tq_ixor := by
  intro x d Q b ls st S K hK h
  unfold tq_ixor at h
  split at h
  · have k := hK _ _ _ _ h
    intro p l e R s m args below meth c Z A D cy C H locs cells slots la hP h1 h2 hl
    exact lv_ixor C.1.1 C.1.2.1 hd (k p l e R s m args below meth c Z A D cy C H locs cells slots la hP h1 h2 hl)
  · exact h.elim
def tq_ishl : tr := fun _ _ b ls st S K => match st with
  | .int v :: .int u :: r => K b ls (.int (u <<< (v &&& 31)) :: r) S
  | _ => False
theorem J_ishl (hd : decode (mB M) pc = .ok (.ishl, 1)) : J M pc (pc + 1) tq_ishl := by
  intro x d Q b ls st S K hK h
  unfold tq_ishl at h
  split at h
  · have k := hK _ _ _ _ h
    intro p l e R s m args below meth c Z A D cy C H locs cells slots la hP h1 h2 hl
    exact lv_ishl C.1.1 C.1.2.1 hd (k p l e R s m args below meth c Z A D cy C H locs cells slots la hP h1 h2 hl)
  · exact h.elim
def tq_ishr : tr := fun _ _ b ls st S K => match st with
  | .int v :: .int u :: r => K b ls (.int (u >>> (v &&& 31)) :: r) S
  | _ => False
theorem J_ishr (hd : decode (mB M) pc = .ok (.ishr, 1)) : J M pc (pc + 1) tq_ishr := by
  intro x d Q b ls st S K hK h
  unfold tq_ishr at h
  split at h
  · have k := hK _ _ _ _ h
    intro p l e R s m args below meth c Z A D cy C H locs cells slots la hP h1 h2 hl
    exact lv_ishr C.1.1 C.1.2.1 hd (k p l e R s m args below meth c Z A D cy C H locs cells slots la hP h1 h2 hl)
  · exact h.elim
def tq_iushr : tr := fun _ _ b ls st S K => match st with
  | .int v :: .int u :: r => K b ls (.int (u.toUInt32 >>> (v.toUInt32 &&& Int32.toUInt32 31)).toInt32 :: r) S
  | _ => False
theorem J_iushr (hd : decode (mB M) pc = .ok (.iushr, 1)) : J M pc (pc + 1) tq_iushr := by
  intro x d Q b ls st S K hK h
  unfold tq_iushr at h
  split at h
  · have k := hK _ _ _ _ h
    intro p l e R s m args below meth c Z A D cy C H locs cells slots la hP h1 h2 hl
    exact lv_iushr C.1.1 C.1.2.1 hd rfl (k p l e R s m args below meth c Z A D cy C H locs cells slots la hP h1 h2 hl)
  · exact h.elim
def tq_idiv : tr := fun _ _ b ls st S K => match st with
  | .int v :: .int u :: r => (¬ v = 0) ∧ K b ls (.int (u / v) :: r) S
  | _ => False
theorem J_idiv (hd : decode (mB M) pc = .ok (.idiv, 1)) : J M pc (pc + 1) tq_idiv := by
  intro x d Q b ls st S K hK h
  unfold tq_idiv at h
  split at h
  · obtain ⟨ho, h⟩ := h
    have k := hK _ _ _ _ h
    intro p l e R s m args below meth c Z A D cy C H locs cells slots la hP h1 h2 hl
    exact lv_idiv C.1.1 C.1.2.1 hd ho (k p l e R s m args below meth c Z A D cy C H locs cells slots la hP h1 h2 hl)
  · exact h.elim
def tq_irem : tr := fun _ _ b ls st S K => match st with
  | .int v :: .int u :: r => (¬ v = 0) ∧ K b ls (.int (u - u / v * v) :: r) S
  | _ => False
theorem J_irem (hd : decode (mB M) pc = .ok (.irem, 1)) : J M pc (pc + 1) tq_irem := by
  intro x d Q b ls st S K hK h
  unfold tq_irem at h
  split at h
  · obtain ⟨ho, h⟩ := h
    have k := hK _ _ _ _ h
    intro p l e R s m args below meth c Z A D cy C H locs cells slots la hP h1 h2 hl
    exact lv_irem C.1.1 C.1.2.1 hd ho (k p l e R s m args below meth c Z A D cy C H locs cells slots la hP h1 h2 hl)
  · exact h.elim
def tq_ineg : tr := fun _ _ b ls st S K => match st with
  | .int v :: r => K b ls (.int (-v) :: r) S
  | _ => False
theorem J_ineg (hd : decode (mB M) pc = .ok (.ineg, 1)) : J M pc (pc + 1) tq_ineg := by
  intro x d Q b ls st S K hK h
  unfold tq_ineg at h
  split at h
  · have k := hK _ _ _ _ h
    intro p l e R s m args below meth c Z A D cy C H locs cells slots la hP h1 h2 hl
    exact lv_ineg C.1.1 C.1.2.1 hd (k p l e R s m args below meth c Z A D cy C H locs cells slots la hP h1 h2 hl)
  · exact h.elim
def tq_i2l : tr := fun _ _ b ls st S K => match st with
  | .int v :: r => K b ls (.long v.toInt64 :: r) S
  | _ => False
theorem J_i2l (hd : decode (mB M) pc = .ok (.i2l, 1)) : J M pc (pc + 1) tq_i2l := by
  intro x d Q b ls st S K hK h
  unfold tq_i2l at h
  split at h
  · have k := hK _ _ _ _ h
    intro p l e R s m args below meth c Z A D cy C H locs cells slots la hP h1 h2 hl
    exact lv_i2l C.1.1 C.1.2.1 hd rfl (k p l e R s m args below meth c Z A D cy C H locs cells slots la hP h1 h2 hl)
  · exact h.elim
def tq_i2s : tr := fun _ _ b ls st S K => match st with
  | .int v :: r => K b ls (.int v.toInt16.toInt32 :: r) S
  | _ => False
theorem J_i2s (hd : decode (mB M) pc = .ok (.i2s, 1)) : J M pc (pc + 1) tq_i2s := by
  intro x d Q b ls st S K hK h
  unfold tq_i2s at h
  split at h
  · have k := hK _ _ _ _ h
    intro p l e R s m args below meth c Z A D cy C H locs cells slots la hP h1 h2 hl
    exact lv_i2s C.1.1 C.1.2.1 hd rfl (k p l e R s m args below meth c Z A D cy C H locs cells slots la hP h1 h2 hl)
  · exact h.elim
def tq_i2c : tr := fun _ _ b ls st S K => match st with
  | .int v :: r => K b ls (.int (v.toUInt32 % 65536).toInt32 :: r) S
  | _ => False
theorem J_i2c (hd : decode (mB M) pc = .ok (.i2c, 1)) : J M pc (pc + 1) tq_i2c := by
  intro x d Q b ls st S K hK h
  unfold tq_i2c at h
  split at h
  · have k := hK _ _ _ _ h
    intro p l e R s m args below meth c Z A D cy C H locs cells slots la hP h1 h2 hl
    exact lv_i2c C.1.1 C.1.2.1 hd rfl (k p l e R s m args below meth c Z A D cy C H locs cells slots la hP h1 h2 hl)
  · exact h.elim
def tq_ladd : tr := fun _ _ b ls st S K => match st with
  | .long v :: .long u :: r => K b ls (.long (u + v) :: r) S
  | _ => False
theorem J_ladd (hd : decode (mB M) pc = .ok (.ladd, 1)) : J M pc (pc + 1) tq_ladd := by
  intro x d Q b ls st S K hK h
  unfold tq_ladd at h
  split at h
  · have k := hK _ _ _ _ h
    intro p l e R s m args below meth c Z A D cy C H locs cells slots la hP h1 h2 hl
    exact lv_ladd C.1.1 C.1.2.1 hd (k p l e R s m args below meth c Z A D cy C H locs cells slots la hP h1 h2 hl)
  · exact h.elim
def tq_lcmp : tr := fun _ _ b ls st S K => match st with
  | .long v :: .long u :: r => K b ls (.int (lg_cmp u v) :: r) S
  | _ => False
theorem J_lcmp (hd : decode (mB M) pc = .ok (.lcmp, 1)) : J M pc (pc + 1) tq_lcmp := by
  intro x d Q b ls st S K hK h
  unfold tq_lcmp at h
  split at h
  · have k := hK _ _ _ _ h
    intro p l e R s m args below meth c Z A D cy C H locs cells slots la hP h1 h2 hl
    exact W.lcmp C.1.1 C.1.2.1 hd (k p l e R s m args below meth c Z A D cy C H locs cells slots la hP h1 h2 hl)
  · exact h.elim
def tq_dup : tr := fun _ _ b ls st S K => match st with
  | v :: r => c2 v = false ∧ K b ls (v :: v :: r) S
  | _ => False
theorem c2_one {v : Value} (h : c2 v = false) : v.category = 1 := by
  cases v <;> simp_all [c2, Value.category]
theorem J_dup (hd : decode (mB M) pc = .ok (.dup, 1)) : J M pc (pc + 1) tq_dup := by
  intro x d Q b ls st S K hK h
  unfold tq_dup at h
  split at h
  · obtain ⟨ho, h⟩ := h
    have k := hK _ _ _ _ h
    intro p l e R s m args below meth c Z A D cy C H locs cells slots la hP h1 h2 hl
    exact lv_dup C.1.1 C.1.2.1 hd (c2_one ho) (k p l e R s m args below meth c Z A D cy C H locs cells slots la hP h1 h2 hl)
  · exact h.elim
def tq_pop : tr := fun _ _ b ls st S K => match st with
  | v :: r => c2 v = false ∧ K b ls r S
  | _ => False
theorem J_pop (hd : decode (mB M) pc = .ok (.pop, 1)) : J M pc (pc + 1) tq_pop := by
  intro x d Q b ls st S K hK h
  unfold tq_pop at h
  split at h
  · obtain ⟨ho, h⟩ := h
    have k := hK _ _ _ _ h
    intro p l e R s m args below meth c Z A D cy C H locs cells slots la hP h1 h2 hl
    exact lv_pop C.1.1 C.1.2.1 hd (c2_one ho) (k p l e R s m args below meth c Z A D cy C H locs cells slots la hP h1 h2 hl)
  · exact h.elim
def tq_dup2 : tr := fun _ _ b ls st S K => match st with
  | v :: u :: r => (c2 v = false ∧ c2 u = false) ∧ K b ls (v :: u :: v :: u :: r) S
  | _ => False
theorem J_dup2 (hd : decode (mB M) pc = .ok (.dup2, 1)) : J M pc (pc + 1) tq_dup2 := by
  intro x d Q b ls st S K hK h
  unfold tq_dup2 at h
  split at h
  · obtain ⟨ho, h⟩ := h
    have k := hK _ _ _ _ h
    intro p l e R s m args below meth c Z A D cy C H locs cells slots la hP h1 h2 hl
    exact lv_dup2_11 C.1.1 C.1.2.1 hd (c2_one ho.1) (c2_one ho.2) (k p l e R s m args below meth c Z A D cy C H locs cells slots la hP h1 h2 hl)
  · exact h.elim
/-! constants -/
def tq_ci (v : Int32) : tr := fun _ _ b ls st S K => K b ls (.int v :: st) S
def tq_cl (v : Int64) : tr := fun _ _ b ls st S K => K b ls (.long v :: st) S
def tq_null : tr := fun _ _ b ls st S K => K b ls (.null :: st) S
theorem J_iconst {n : Int} {v : Int32} (hd : decode (mB M) pc = .ok (.iconst n, 1)) (hv : Int32.ofInt n = v) : J M pc (pc + 1) (tq_ci v) := by
  intro x d Q b ls st S K hK h
  have k := hK _ _ _ _ h
  intro p l e R s m args below meth c Z A D cy C H locs cells slots la hP h1 h2 hl
  exact lv_iconst C.1.1 C.1.2.1 hd hv (k p l e R s m args below meth c Z A D cy C H locs cells slots la hP h1 h2 hl)
theorem J_bipush {n : Int} {v : Int32} (hd : decode (mB M) pc = .ok (.bipush n, 2)) (hv : (Int8.ofInt n).toInt32 = v) : J M pc (pc + 2) (tq_ci v) := by
  intro x d Q b ls st S K hK h
  have k := hK _ _ _ _ h
  intro p l e R s m args below meth c Z A D cy C H locs cells slots la hP h1 h2 hl
  exact lv_bipush C.1.1 C.1.2.1 hd hv (k p l e R s m args below meth c Z A D cy C H locs cells slots la hP h1 h2 hl)
theorem J_sipush {n : Int} {v : Int32} (hd : decode (mB M) pc = .ok (.sipush n, 3)) (hv : (Int16.ofInt n).toInt32 = v) : J M pc (pc + 3) (tq_ci v) := by
  intro x d Q b ls st S K hK h
  have k := hK _ _ _ _ h
  intro p l e R s m args below meth c Z A D cy C H locs cells slots la hP h1 h2 hl
  exact lv_sipush C.1.1 C.1.2.1 hd hv (k p l e R s m args below meth c Z A D cy C H locs cells slots la hP h1 h2 hl)
theorem J_lconst {n : Fin 2} {v : Int64} (hd : decode (mB M) pc = .ok (.lconst n, 1)) (hv : Int64.ofNat (n : Nat) = v) : J M pc (pc + 1) (tq_cl v) := by
  intro x d Q b ls st S K hK h
  have k := hK _ _ _ _ h
  intro p l e R s m args below meth c Z A D cy C H locs cells slots la hP h1 h2 hl
  exact lv_lconst C.1.1 C.1.2.1 hd hv (k p l e R s m args below meth c Z A D cy C H locs cells slots la hP h1 h2 hl)
theorem J_null (hd : decode (mB M) pc = .ok (.aconst_null, 1)) : J M pc (pc + 1) tq_null := by
  intro x d Q b ls st S K hK h
  have k := hK _ _ _ _ h
  intro p l e R s m args below meth c Z A D cy C H locs cells slots la hP h1 h2 hl
  exact lv_null C.1.1 C.1.2.1 hd (k p l e R s m args below meth c Z A D cy C H locs cells slots la hP h1 h2 hl)
theorem J_ldc {i : Nat} {v : Int32} (hd : decode (mB M) pc = .ok (.ldc i, 2)) (hw : Cond.constant (mY M).cls i v ∈ GW) : J M pc (pc + 2) (tq_ci v) := by
  intro x d Q b ls st S K hK h
  have k := hK _ _ _ _ h
  intro p l e R s m args below meth c Z A D cy C H locs cells slots la hP h1 h2 hl
  exact lv_ldc C.1.1 C.1.2.1 C.1.2.2.2.1 (C.1.2.2.2.2 _ hw) hd (k p l e R s m args below meth c Z A D cy C H locs cells slots la hP h1 h2 hl)
theorem J_ldcw {i : Nat} {v : Int32} (hd : decode (mB M) pc = .ok (.ldc_w i, 3)) (hw : Cond.constant (mY M).cls i v ∈ GW) : J M pc (pc + 3) (tq_ci v) := by
  intro x d Q b ls st S K hK h
  have k := hK _ _ _ _ h
  intro p l e R s m args below meth c Z A D cy C H locs cells slots la hP h1 h2 hl
  exact lv_ldcw C.1.1 C.1.2.1 C.1.2.2.2.1 (C.1.2.2.2.2 _ hw) hd (k p l e R s m args below meth c Z A D cy C H locs cells slots la hP h1 h2 hl)
theorem J_ldc2 {i : Nat} {v : Int64} (hd : decode (mB M) pc = .ok (.ldc2_w i, 3)) (hw : Cond.constantLong (mY M).cls i v ∈ GW) : J M pc (pc + 3) (tq_cl v) := by
  intro x d Q b ls st S K hK h
  have k := hK _ _ _ _ h
  intro p l e R s m args below meth c Z A D cy C H locs cells slots la hP h1 h2 hl
  exact lv_ldc2 C.1.1 C.1.2.1 C.1.2.2.2.1 (C.1.2.2.2.2 _ hw) hd (k p l e R s m args below meth c Z A D cy C H locs cells slots la hP h1 h2 hl)
/-- a String constant: its address is one of x's -/
def tq_str (i : Nat) (own : String) : tr := fun x _ b ls st S K => ∃ (tx : String) (a : Nat), (own, i, tx, a) ∈ x.2.2.2.2 ∧ K b ls (.ref a :: st) S
theorem J_str {i : Nat} (hd : decode (mB M) pc = .ok (.ldc i, 2)) : J M pc (pc + 2) (tq_str i (mY M).cls) := by
  intro x d Q b ls st S K hK h
  obtain ⟨tx, a, hm, h⟩ := h
  have k := hK _ _ _ _ h
  intro p l e R s m args below meth c Z A D cy C H locs cells slots la hP h1 h2 hl
  exact va_ldcS C.1.1 C.1.2.1 C.1.2.2.2.1 (C.2.2.1.2.2.2.2.1 _ hm) hd (k p l e R s m args below meth c Z A D cy C H locs cells slots la hP h1 h2 hl)
/-! locals -/
def tq_il (i : Nat) : tr := fun _ _ b ls st S K => match lg ls i with
  | some (.int v) => K b ls (.int v :: st) S
  | _ => False
def tq_ll (i : Nat) : tr := fun _ _ b ls st S K => match lg ls i with
  | some (.long v) => K b ls (.long v :: st) S
  | _ => False
def tq_al (i : Nat) : tr := fun _ _ b ls st S K => match lg ls i with
  | some (.ref a) => K b ls (.ref a :: st) S
  | some .null => K b ls (.null :: st) S
  | _ => False
def tq_is (i : Nat) : tr := fun _ _ b ls st S K => match st with
  | .int v :: r => K b (lup i (.int v) ls) r S
  | _ => False
def tq_as (i : Nat) : tr := fun _ _ b ls st S K => match st with
  | .ref a :: r => K b (lup i (.ref a) ls) r S
  | .null :: r => K b (lup i .null ls) r S
  | _ => False
def tq_inc (i : Nat) (n : Int32) : tr := fun _ _ b ls st S K => match lg ls i with
  | some (.int v) => K b (lup i (.int (v + n)) ls) st S
  | _ => False
theorem J_iload {i : Nat} (hd : decode (mB M) pc = .ok (.iload i, 2)) : J M pc (pc + 2) (tq_il i) := by
  intro x d Q b ls st S K hK h
  unfold tq_il at h
  split at h
  · rename_i hg
    have k := hK _ _ _ _ h
    intro p l e R s m args below meth c Z A D cy C H locs cells slots la hP h1 h2 hl
    exact lv_iload C.1.1 C.1.2.1 hd (lg_at hl hg) (k p l e R s m args below meth c Z A D cy C H locs cells slots la hP h1 h2 hl)
  · exact h.elim
theorem J_iload_n {i : Nat} {n : Fin 4} (hd : decode (mB M) pc = .ok (.iload_n n, 1)) (hn : (n : Nat) = i) : J M pc (pc + 1) (tq_il i) := by
  intro x d Q b ls st S K hK h
  unfold tq_il at h
  split at h
  · rename_i hg
    have k := hK _ _ _ _ h
    intro p l e R s m args below meth c Z A D cy C H locs cells slots la hP h1 h2 hl
    exact lv_iload_n C.1.1 C.1.2.1 hd hn (lg_at hl hg) (k p l e R s m args below meth c Z A D cy C H locs cells slots la hP h1 h2 hl)
  · exact h.elim
theorem J_lload {i : Nat} (hd : decode (mB M) pc = .ok (.lload i, 2)) : J M pc (pc + 2) (tq_ll i) := by
  intro x d Q b ls st S K hK h
  unfold tq_ll at h
  split at h
  · rename_i hg
    have k := hK _ _ _ _ h
    intro p l e R s m args below meth c Z A D cy C H locs cells slots la hP h1 h2 hl
    exact lv_lload C.1.1 C.1.2.1 hd (lg_at hl hg) (k p l e R s m args below meth c Z A D cy C H locs cells slots la hP h1 h2 hl)
  · exact h.elim
theorem J_lload_n {i : Nat} {n : Fin 4} (hd : decode (mB M) pc = .ok (.lload_n n, 1)) (hn : (n : Nat) = i) : J M pc (pc + 1) (tq_ll i) := by
  intro x d Q b ls st S K hK h
  unfold tq_ll at h
  split at h
  · rename_i hg
    have k := hK _ _ _ _ h
    intro p l e R s m args below meth c Z A D cy C H locs cells slots la hP h1 h2 hl
    exact lv_lload_n C.1.1 C.1.2.1 hd hn (lg_at hl hg) (k p l e R s m args below meth c Z A D cy C H locs cells slots la hP h1 h2 hl)
  · exact h.elim
theorem J_aload {i : Nat} (hd : decode (mB M) pc = .ok (.aload i, 2)) : J M pc (pc + 2) (tq_al i) := by
  intro x d Q b ls st S K hK h
  unfold tq_al at h
  split at h
  · rename_i hg
    have k := hK _ _ _ _ h
    intro p l e R s m args below meth c Z A D cy C H locs cells slots la hP h1 h2 hl
    exact lv_aload C.1.1 C.1.2.1 hd (lg_at hl hg) (k p l e R s m args below meth c Z A D cy C H locs cells slots la hP h1 h2 hl)
  · rename_i hg
    have k := hK _ _ _ _ h
    intro p l e R s m args below meth c Z A D cy C H locs cells slots la hP h1 h2 hl
    exact lv_aloadN C.1.1 C.1.2.1 hd (lg_at hl hg) (k p l e R s m args below meth c Z A D cy C H locs cells slots la hP h1 h2 hl)
  · exact h.elim
theorem J_aload_n {i : Nat} {n : Fin 4} (hd : decode (mB M) pc = .ok (.aload_n n, 1)) (hn : (n : Nat) = i) : J M pc (pc + 1) (tq_al i) := by
  intro x d Q b ls st S K hK h
  unfold tq_al at h
  split at h
  · rename_i hg
    have k := hK _ _ _ _ h
    intro p l e R s m args below meth c Z A D cy C H locs cells slots la hP h1 h2 hl
    exact lv_aload_n C.1.1 C.1.2.1 hd hn (lg_at hl hg) (k p l e R s m args below meth c Z A D cy C H locs cells slots la hP h1 h2 hl)
  · rename_i hg
    have k := hK _ _ _ _ h
    intro p l e R s m args below meth c Z A D cy C H locs cells slots la hP h1 h2 hl
    exact lv_aload_nN C.1.1 C.1.2.1 hd hn (lg_at hl hg) (k p l e R s m args below meth c Z A D cy C H locs cells slots la hP h1 h2 hl)
  · exact h.elim
theorem J_istore {i : Nat} (hd : decode (mB M) pc = .ok (.istore i, 2)) (hi : i < mL M) : J M pc (pc + 2) (tq_is i) := by
  intro x d Q b ls st S K hK h
  unfold tq_is at h
  split at h
  · have k := hK _ _ _ _ h
    intro p l e R s m args below meth c Z A D cy C H locs cells slots la hP h1 h2 hl
    exact lv_istore C.1.1 C.1.2.1 hd hl hi rfl (fun la hl => k p l e R s m args below meth c Z A D cy C H locs cells slots la hP h1 h2 (lup_has hl))
  · exact h.elim
theorem J_istore_n {i : Nat} {n : Fin 4} (hd : decode (mB M) pc = .ok (.istore_n n, 1)) (hn : (n : Nat) = i) (hi : i < mL M) : J M pc (pc + 1) (tq_is i) := by
  intro x d Q b ls st S K hK h
  unfold tq_is at h
  split at h
  · have k := hK _ _ _ _ h
    intro p l e R s m args below meth c Z A D cy C H locs cells slots la hP h1 h2 hl
    exact lv_istore_n C.1.1 C.1.2.1 hd hn hl hi rfl (fun la hl => k p l e R s m args below meth c Z A D cy C H locs cells slots la hP h1 h2 (lup_has hl))
  · exact h.elim
theorem J_astore {i : Nat} (hd : decode (mB M) pc = .ok (.astore i, 2)) (hi : i < mL M) : J M pc (pc + 2) (tq_as i) := by
  intro x d Q b ls st S K hK h
  unfold tq_as at h
  split at h
  · have k := hK _ _ _ _ h
    intro p l e R s m args below meth c Z A D cy C H locs cells slots la hP h1 h2 hl
    exact lv_astore C.1.1 C.1.2.1 hd hl hi rfl (fun la hl => k p l e R s m args below meth c Z A D cy C H locs cells slots la hP h1 h2 (lup_has hl))
  · have k := hK _ _ _ _ h
    intro p l e R s m args below meth c Z A D cy C H locs cells slots la hP h1 h2 hl
    exact lv_astoreN C.1.1 C.1.2.1 hd hl hi rfl (fun la hl => k p l e R s m args below meth c Z A D cy C H locs cells slots la hP h1 h2 (lup_has hl))
  · exact h.elim
theorem J_astore_n {i : Nat} {n : Fin 4} (hd : decode (mB M) pc = .ok (.astore_n n, 1)) (hn : (n : Nat) = i) (hi : i < mL M) : J M pc (pc + 1) (tq_as i) := by
  intro x d Q b ls st S K hK h
  unfold tq_as at h
  split at h
  · have k := hK _ _ _ _ h
    intro p l e R s m args below meth c Z A D cy C H locs cells slots la hP h1 h2 hl
    exact lv_astore_n C.1.1 C.1.2.1 hd hn hl hi rfl (fun la hl => k p l e R s m args below meth c Z A D cy C H locs cells slots la hP h1 h2 (lup_has hl))
  · have k := hK _ _ _ _ h
    intro p l e R s m args below meth c Z A D cy C H locs cells slots la hP h1 h2 hl
    exact lv_astore_nN C.1.1 C.1.2.1 hd hn hl hi rfl (fun la hl => k p l e R s m args below meth c Z A D cy C H locs cells slots la hP h1 h2 (lup_has hl))
  · exact h.elim
theorem J_iinc {i : Nat} {n : Int} {v : Int32} (hd : decode (mB M) pc = .ok (.iinc i n, 3)) (hi : i < mL M) (hv : Int32.ofInt n = v) : J M pc (pc + 3) (tq_inc i v) := by
  subst hv
  intro x d Q b ls st S K hK h
  unfold tq_inc at h
  split at h
  · rename_i hg
    have k := hK _ _ _ _ h
    intro p l e R s m args below meth c Z A D cy C H locs cells slots la hP h1 h2 hl
    obtain ⟨j, hj⟩ := List.getElem?_of_mem (lg_mem hg)
    exact lv_iinc C.1.1 C.1.2.1 hd hl hj rfl hi rfl (fun la hl => k p l e R s m args below meth c Z A D cy C H locs cells slots la hP h1 h2 (lup_has hl))
  · exact h.elim
/-! branches -/
def b_eq (t n : Nat) : tb := fun _ _ b ls st S K _ => match st with
  | .int v :: r => (v = 0 → K t b ls r S) ∧ (¬ v = 0 → K n b ls r S)
  | _ => False
theorem J_eq {off : Int} {t : Nat} (hd : decode (mB M) pc = .ok (.ifCond .eq off, 3)) (ht : (pc : Int) + off = (t : Int)) : JB M pc (b_eq t (pc + 3)) := by
  intro x d Q b ls st S K hK h
  unfold b_eq at h
  split at h
  · intro p l e R s m args below meth c Z A D cy C H locs cells slots la hP h1 h2 hl
    exact lv_if_eq C.1.1 C.1.2.1 hd ht (fun q => hK _ _ _ _ _ (h.1 q) p l e R s m args below meth c Z A D cy C H locs cells slots la hP h1 h2 hl) (fun q => hK _ _ _ _ _ (h.2 q) p l e R s m args below meth c Z A D cy C H locs cells slots la hP h1 h2 hl)
  · exact h.elim
def b_ne (t n : Nat) : tb := fun _ _ b ls st S K _ => match st with
  | .int v :: r => (¬ v = 0 → K t b ls r S) ∧ (v = 0 → K n b ls r S)
  | _ => False
theorem J_ne {off : Int} {t : Nat} (hd : decode (mB M) pc = .ok (.ifCond .ne off, 3)) (ht : (pc : Int) + off = (t : Int)) : JB M pc (b_ne t (pc + 3)) := by
  intro x d Q b ls st S K hK h
  unfold b_ne at h
  split at h
  · intro p l e R s m args below meth c Z A D cy C H locs cells slots la hP h1 h2 hl
    exact lv_if_ne C.1.1 C.1.2.1 hd ht (fun q => hK _ _ _ _ _ (h.1 q) p l e R s m args below meth c Z A D cy C H locs cells slots la hP h1 h2 hl) (fun q => hK _ _ _ _ _ (h.2 q) p l e R s m args below meth c Z A D cy C H locs cells slots la hP h1 h2 hl)
  · exact h.elim
def b_lt (t n : Nat) : tb := fun _ _ b ls st S K _ => match st with
  | .int v :: r => (v < 0 → K t b ls r S) ∧ (¬ v < 0 → K n b ls r S)
  | _ => False
theorem J_lt {off : Int} {t : Nat} (hd : decode (mB M) pc = .ok (.ifCond .lt off, 3)) (ht : (pc : Int) + off = (t : Int)) : JB M pc (b_lt t (pc + 3)) := by
  intro x d Q b ls st S K hK h
  unfold b_lt at h
  split at h
  · intro p l e R s m args below meth c Z A D cy C H locs cells slots la hP h1 h2 hl
    exact lv_if_lt C.1.1 C.1.2.1 hd ht (fun q => hK _ _ _ _ _ (h.1 q) p l e R s m args below meth c Z A D cy C H locs cells slots la hP h1 h2 hl) (fun q => hK _ _ _ _ _ (h.2 q) p l e R s m args below meth c Z A D cy C H locs cells slots la hP h1 h2 hl)
  · exact h.elim
def b_ge (t n : Nat) : tb := fun _ _ b ls st S K _ => match st with
  | .int v :: r => (0 ≤ v → K t b ls r S) ∧ (¬ 0 ≤ v → K n b ls r S)
  | _ => False
theorem J_ge {off : Int} {t : Nat} (hd : decode (mB M) pc = .ok (.ifCond .ge off, 3)) (ht : (pc : Int) + off = (t : Int)) : JB M pc (b_ge t (pc + 3)) := by
  intro x d Q b ls st S K hK h
  unfold b_ge at h
  split at h
  · intro p l e R s m args below meth c Z A D cy C H locs cells slots la hP h1 h2 hl
    exact lv_if_ge C.1.1 C.1.2.1 hd ht (fun q => hK _ _ _ _ _ (h.1 q) p l e R s m args below meth c Z A D cy C H locs cells slots la hP h1 h2 hl) (fun q => hK _ _ _ _ _ (h.2 q) p l e R s m args below meth c Z A D cy C H locs cells slots la hP h1 h2 hl)
  · exact h.elim
def b_gt (t n : Nat) : tb := fun _ _ b ls st S K _ => match st with
  | .int v :: r => (0 < v → K t b ls r S) ∧ (¬ 0 < v → K n b ls r S)
  | _ => False
theorem J_gt {off : Int} {t : Nat} (hd : decode (mB M) pc = .ok (.ifCond .gt off, 3)) (ht : (pc : Int) + off = (t : Int)) : JB M pc (b_gt t (pc + 3)) := by
  intro x d Q b ls st S K hK h
  unfold b_gt at h
  split at h
  · intro p l e R s m args below meth c Z A D cy C H locs cells slots la hP h1 h2 hl
    exact lv_if_gt C.1.1 C.1.2.1 hd ht (fun q => hK _ _ _ _ _ (h.1 q) p l e R s m args below meth c Z A D cy C H locs cells slots la hP h1 h2 hl) (fun q => hK _ _ _ _ _ (h.2 q) p l e R s m args below meth c Z A D cy C H locs cells slots la hP h1 h2 hl)
  · exact h.elim
def b_le (t n : Nat) : tb := fun _ _ b ls st S K _ => match st with
  | .int v :: r => (v ≤ 0 → K t b ls r S) ∧ (¬ v ≤ 0 → K n b ls r S)
  | _ => False
theorem J_le {off : Int} {t : Nat} (hd : decode (mB M) pc = .ok (.ifCond .le off, 3)) (ht : (pc : Int) + off = (t : Int)) : JB M pc (b_le t (pc + 3)) := by
  intro x d Q b ls st S K hK h
  unfold b_le at h
  split at h
  · intro p l e R s m args below meth c Z A D cy C H locs cells slots la hP h1 h2 hl
    exact lv_if_le C.1.1 C.1.2.1 hd ht (fun q => hK _ _ _ _ _ (h.1 q) p l e R s m args below meth c Z A D cy C H locs cells slots la hP h1 h2 hl) (fun q => hK _ _ _ _ _ (h.2 q) p l e R s m args below meth c Z A D cy C H locs cells slots la hP h1 h2 hl)
  · exact h.elim
def b_ceq (t n : Nat) : tb := fun _ _ b ls st S K _ => match st with
  | .int v :: .int u :: r => (u = v → K t b ls r S) ∧ (¬ u = v → K n b ls r S)
  | _ => False
theorem J_ceq {off : Int} {t : Nat} (hd : decode (mB M) pc = .ok (.if_icmp .eq off, 3)) (ht : (pc : Int) + off = (t : Int)) : JB M pc (b_ceq t (pc + 3)) := by
  intro x d Q b ls st S K hK h
  unfold b_ceq at h
  split at h
  · intro p l e R s m args below meth c Z A D cy C H locs cells slots la hP h1 h2 hl
    exact lv_icmp_eq C.1.1 C.1.2.1 hd ht (fun q => hK _ _ _ _ _ (h.1 q) p l e R s m args below meth c Z A D cy C H locs cells slots la hP h1 h2 hl) (fun q => hK _ _ _ _ _ (h.2 q) p l e R s m args below meth c Z A D cy C H locs cells slots la hP h1 h2 hl)
  · exact h.elim
def b_cne (t n : Nat) : tb := fun _ _ b ls st S K _ => match st with
  | .int v :: .int u :: r => (¬ u = v → K t b ls r S) ∧ (u = v → K n b ls r S)
  | _ => False
theorem J_cne {off : Int} {t : Nat} (hd : decode (mB M) pc = .ok (.if_icmp .ne off, 3)) (ht : (pc : Int) + off = (t : Int)) : JB M pc (b_cne t (pc + 3)) := by
  intro x d Q b ls st S K hK h
  unfold b_cne at h
  split at h
  · intro p l e R s m args below meth c Z A D cy C H locs cells slots la hP h1 h2 hl
    exact lv_icmp_ne C.1.1 C.1.2.1 hd ht (fun q => hK _ _ _ _ _ (h.1 q) p l e R s m args below meth c Z A D cy C H locs cells slots la hP h1 h2 hl) (fun q => hK _ _ _ _ _ (h.2 q) p l e R s m args below meth c Z A D cy C H locs cells slots la hP h1 h2 hl)
  · exact h.elim
def b_clt (t n : Nat) : tb := fun _ _ b ls st S K _ => match st with
  | .int v :: .int u :: r => (u < v → K t b ls r S) ∧ (¬ u < v → K n b ls r S)
  | _ => False
theorem J_clt {off : Int} {t : Nat} (hd : decode (mB M) pc = .ok (.if_icmp .lt off, 3)) (ht : (pc : Int) + off = (t : Int)) : JB M pc (b_clt t (pc + 3)) := by
  intro x d Q b ls st S K hK h
  unfold b_clt at h
  split at h
  · intro p l e R s m args below meth c Z A D cy C H locs cells slots la hP h1 h2 hl
    exact lv_icmp_lt C.1.1 C.1.2.1 hd ht (fun q => hK _ _ _ _ _ (h.1 q) p l e R s m args below meth c Z A D cy C H locs cells slots la hP h1 h2 hl) (fun q => hK _ _ _ _ _ (h.2 q) p l e R s m args below meth c Z A D cy C H locs cells slots la hP h1 h2 hl)
  · exact h.elim
def b_cge (t n : Nat) : tb := fun _ _ b ls st S K _ => match st with
  | .int v :: .int u :: r => (v ≤ u → K t b ls r S) ∧ (¬ v ≤ u → K n b ls r S)
  | _ => False
theorem J_cge {off : Int} {t : Nat} (hd : decode (mB M) pc = .ok (.if_icmp .ge off, 3)) (ht : (pc : Int) + off = (t : Int)) : JB M pc (b_cge t (pc + 3)) := by
  intro x d Q b ls st S K hK h
  unfold b_cge at h
  split at h
  · intro p l e R s m args below meth c Z A D cy C H locs cells slots la hP h1 h2 hl
    exact lv_icmp_ge C.1.1 C.1.2.1 hd ht (fun q => hK _ _ _ _ _ (h.1 q) p l e R s m args below meth c Z A D cy C H locs cells slots la hP h1 h2 hl) (fun q => hK _ _ _ _ _ (h.2 q) p l e R s m args below meth c Z A D cy C H locs cells slots la hP h1 h2 hl)
  · exact h.elim
def b_cgt (t n : Nat) : tb := fun _ _ b ls st S K _ => match st with
  | .int v :: .int u :: r => (v < u → K t b ls r S) ∧ (¬ v < u → K n b ls r S)
  | _ => False
theorem J_cgt {off : Int} {t : Nat} (hd : decode (mB M) pc = .ok (.if_icmp .gt off, 3)) (ht : (pc : Int) + off = (t : Int)) : JB M pc (b_cgt t (pc + 3)) := by
  intro x d Q b ls st S K hK h
  unfold b_cgt at h
  split at h
  · intro p l e R s m args below meth c Z A D cy C H locs cells slots la hP h1 h2 hl
    exact lv_icmp_gt C.1.1 C.1.2.1 hd ht (fun q => hK _ _ _ _ _ (h.1 q) p l e R s m args below meth c Z A D cy C H locs cells slots la hP h1 h2 hl) (fun q => hK _ _ _ _ _ (h.2 q) p l e R s m args below meth c Z A D cy C H locs cells slots la hP h1 h2 hl)
  · exact h.elim
def b_cle (t n : Nat) : tb := fun _ _ b ls st S K _ => match st with
  | .int v :: .int u :: r => (u ≤ v → K t b ls r S) ∧ (¬ u ≤ v → K n b ls r S)
  | _ => False
theorem J_cle {off : Int} {t : Nat} (hd : decode (mB M) pc = .ok (.if_icmp .le off, 3)) (ht : (pc : Int) + off = (t : Int)) : JB M pc (b_cle t (pc + 3)) := by
  intro x d Q b ls st S K hK h
  unfold b_cle at h
  split at h
  · intro p l e R s m args below meth c Z A D cy C H locs cells slots la hP h1 h2 hl
    exact lv_icmp_le C.1.1 C.1.2.1 hd ht (fun q => hK _ _ _ _ _ (h.1 q) p l e R s m args below meth c Z A D cy C H locs cells slots la hP h1 h2 hl) (fun q => hK _ _ _ _ _ (h.2 q) p l e R s m args below meth c Z A D cy C H locs cells slots la hP h1 h2 hl)
  · exact h.elim
def b_null (t n : Nat) : tb := fun _ _ b ls st S K _ => match st with
  | .null :: r => K t b ls r S
  | .ref _ :: r => K n b ls r S
  | _ => False
theorem J_ifnull {off : Int} {t : Nat} (hd : decode (mB M) pc = .ok (.ifnull off, 3)) (ht : (pc : Int) + off = (t : Int)) : JB M pc (b_null t (pc + 3)) := by
  intro x d Q b ls st S K hK h
  unfold b_null at h
  split at h
  · intro p l e R s m args below meth c Z A D cy C H locs cells slots la hP h1 h2 hl
    exact lv_ifnullN C.1.1 C.1.2.1 hd ht (hK _ _ _ _ _ h p l e R s m args below meth c Z A D cy C H locs cells slots la hP h1 h2 hl)
  · intro p l e R s m args below meth c Z A D cy C H locs cells slots la hP h1 h2 hl
    exact lv_ifnull C.1.1 C.1.2.1 hd (hK _ _ _ _ _ h p l e R s m args below meth c Z A D cy C H locs cells slots la hP h1 h2 hl)
  · exact h.elim
def b_nonnull (t n : Nat) : tb := fun _ _ b ls st S K _ => match st with
  | .null :: r => K n b ls r S
  | .ref _ :: r => K t b ls r S
  | _ => False
theorem J_ifnonnull {off : Int} {t : Nat} (hd : decode (mB M) pc = .ok (.ifnonnull off, 3)) (ht : (pc : Int) + off = (t : Int)) : JB M pc (b_nonnull t (pc + 3)) := by
  intro x d Q b ls st S K hK h
  unfold b_nonnull at h
  split at h
  · intro p l e R s m args below meth c Z A D cy C H locs cells slots la hP h1 h2 hl
    exact lv_ifnonnullN C.1.1 C.1.2.1 hd (hK _ _ _ _ _ h p l e R s m args below meth c Z A D cy C H locs cells slots la hP h1 h2 hl)
  · intro p l e R s m args below meth c Z A D cy C H locs cells slots la hP h1 h2 hl
    exact lv_ifnonnull C.1.1 C.1.2.1 hd ht (hK _ _ _ _ _ h p l e R s m args below meth c Z A D cy C H locs cells slots la hP h1 h2 hl)
  · exact h.elim
def b_goto (t : Nat) : tb := fun _ _ b ls st S K _ => K t b ls st S
theorem J_goto {off : Int} {t : Nat} (hd : decode (mB M) pc = .ok (.goto off, 3)) (ht : (pc : Int) + off = (t : Int)) : JB M pc (b_goto t) := by
  intro x d Q b ls st S K hK h
  intro p l e R s m args below meth c Z A D cy C H locs cells slots la hP h1 h2 hl
  exact lv_goto C.1.1 C.1.2.1 hd ht (hK _ _ _ _ _ h p l e R s m args below meth c Z A D cy C H locs cells slots la hP h1 h2 hl)
/-! switches: the table's targets by their places, else the default -/
def b_tab (lo : Int) (ts : List Nat) (t : Nat) : tb := fun _ _ b ls st S K _ => match st with
  | .int v :: r => (∀ (i : Nat) (q : Nat), ts[i]? = some q → v.toInt = lo + (i : Int) → K q b ls r S) ∧ ((v.toInt < lo ∨ lo + (ts.length : Int) ≤ v.toInt) → K t b ls r S)
  | _ => False
theorem J_tab {dflt lo hi : Int} {offs : Array Int} {len t : Nat} {ts : List Nat} (hd : decode (mB M) pc = .ok (.tableswitch dflt lo hi offs, len)) (hh : hi + 1 = lo + (ts.length : Int)) (ho : offs.toList = ts.map (fun q : Nat => (q : Int) - (pc : Int))) (ht : (pc : Int) + dflt = (t : Int)) : JB M pc (b_tab lo ts t) := by
  intro x d Q b ls st S K hK h
  unfold b_tab at h
  split at h
  · rename_i v r
    intro p l e R s m args below meth c Z A D cy C H locs cells slots la hP h1 h2 hl
    by_cases hc : v.toInt < lo ∨ hi < v.toInt
    · exact lv_tableOut C.1.1 C.1.2.1 hd hc ht (hK _ _ _ _ _ (h.2 (by omega)) p l e R s m args below meth c Z A D cy C H locs cells slots la hP h1 h2 hl)
    · have hi1 : (v.toInt - lo).toNat < ts.length := by omega
      have hq : ts[(v.toInt - lo).toNat]? = some ts[(v.toInt - lo).toNat] := List.getElem?_eq_getElem hi1
      refine lv_tableIn (tgt := ts[(v.toInt - lo).toNat]) C.1.1 C.1.2.1 hd (by omega) (by omega) (off := (ts[(v.toInt - lo).toNat] : Int) - (pc : Int)) ?_ (by omega) (hK _ _ _ _ _ (h.1 _ _ hq (by omega)) p l e R s m args below meth c Z A D cy C H locs cells slots la hP h1 h2 hl)
      rw [← Array.getElem?_toList, ho, List.getElem?_map, hq]
      rfl
  · exact h.elim
def b_lk (ps : List (Int × Int)) (pc dflt : Int) : tb := fun _ _ b ls st S K _ => match st with
  | .int v :: r => ∀ t : Nat, pc + Op.lookupswitch.offset ps dflt v.toInt = (t : Int) → K t b ls r S
  | _ => False
theorem J_lk {dflt : Int} {ps : Array (Int × Int)} {len : Nat} {qs : List (Int × Int)} (hd : decode (mB M) pc = .ok (.lookupswitch dflt ps, len)) (hq : ps.toList = qs) (hp : (qs.zip (qs.drop 1)).all (fun (a, next) => a.1 < next.1) = true) (hz : ∀ z : Int, 0 ≤ (pc : Int) + Op.lookupswitch.offset qs dflt z) : JB M pc (b_lk qs (pc : Int) dflt) := by
  subst hq
  intro x d Q b ls st S K hK h
  unfold b_lk at h
  split at h
  · rename_i v r
    intro p l e R s m args below meth c Z A D cy C H locs cells slots la hP h1 h2 hl
    have ht : (pc : Int) + Op.lookupswitch.offset ps.toList dflt v.toInt = ((((pc : Int) + Op.lookupswitch.offset ps.toList dflt v.toInt).toNat : Nat) : Int) := by
      have := hz v.toInt
      omega
    exact lv_lookup C.1.1 C.1.2.1 hd hp rfl ht (hK _ _ _ _ _ (h _ ht) p l e R s m args below meth c Z A D cy C H locs cells slots la hP h1 h2 hl)
  · exact h.elim
/-! the ends -/
def b_iret (rt : Option FieldType) : tb := fun _ _ _ _ st S _ Q => match st with
  | [.int v] => (∃ ty, rt = some ty ∧ narrow ty (.int v) = .int v) ∧ Q (some (.int v)) S
  | _ => False
theorem J_iret (hd : decode (mB M) pc = .ok (.ireturn, 1)) : JB M pc (b_iret (mR M)) := by
  intro x d Q b ls st S K hK h
  unfold b_iret at h
  split at h
  · obtain ⟨⟨ty, h3, h4⟩, h⟩ := h
    intro p l e R s m args below meth c Z A D cy C H locs cells slots la hP h1 h2 hl
    exact C.2.2.2.2.2.2 _ S H locs cells slots la pc _ hd (Or.inl ⟨rfl, _, ty, rfl, h3, h4⟩) h hP (by omega) (by omega)
  · exact h.elim
def b_ret (rt : Option FieldType) : tb := fun _ _ _ _ st S _ Q => match st with
  | [] => rt = none ∧ Q none S
  | _ => False
theorem J_ret (hd : decode (mB M) pc = .ok (.return_, 1)) : JB M pc (b_ret (mR M)) := by
  intro x d Q b ls st S K hK h
  unfold b_ret at h
  split at h
  · obtain ⟨h3, h⟩ := h
    intro p l e R s m args below meth c Z A D cy C H locs cells slots la hP h1 h2 hl
    exact C.2.2.2.2.2.2 _ S H locs cells slots la pc _ hd (Or.inr (Or.inl ⟨rfl, rfl, h3⟩)) h hP (by omega) (by omega)
  · exact h.elim
def b_aret (rt : Option FieldType) : tb := fun _ _ _ _ st S _ Q => match st with
  | [.ref a] => (∃ ty, rt = some ty ∧ ((∃ n, ty = .object n) ∨ ∃ t, ty = .array t)) ∧ Q (some (.ref a)) S
  | [.null] => (∃ ty, rt = some ty ∧ ((∃ n, ty = .object n) ∨ ∃ t, ty = .array t)) ∧ Q (some .null) S
  | _ => False
theorem J_aret (hd : decode (mB M) pc = .ok (.areturn, 1)) : JB M pc (b_aret (mR M)) := by
  intro x d Q b ls st S K hK h
  unfold b_aret at h
  split at h
  · rename_i a
    obtain ⟨⟨ty, h3, h4⟩, h⟩ := h
    intro p l e R s m args below meth c Z A D cy C H locs cells slots la hP h1 h2 hl
    exact C.2.2.2.2.2.2 _ S H locs cells slots la pc _ hd (Or.inr (Or.inr ⟨rfl, some a, ty, rfl, h3, h4⟩)) h hP (by omega) (by omega)
  · obtain ⟨⟨ty, h3, h4⟩, h⟩ := h
    intro p l e R s m args below meth c Z A D cy C H locs cells slots la hP h1 h2 hl
    exact C.2.2.2.2.2.2 _ S H locs cells slots la pc _ hd (Or.inr (Or.inr ⟨rfl, none, ty, rfl, h3, h4⟩)) h hP (by omega) (by omega)
  · exact h.elim
end JJ
