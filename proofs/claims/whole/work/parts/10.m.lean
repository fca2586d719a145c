/-! ===== the model's object in the pool: its arrays A (by field), its int fields F ===== -/
def aN : Nat → Nat
  | 288 => 3154
  | 289 => 3154
  | 290 => 3154
  | 292 => 4
  | 293 => 4
  | 294 => 96
  | 295 => 5
  | 296 => 5
  | 297 => 5
  | 298 => 5
  | 299 => 120
  | 300 => 96
  | 312 => 128
  | 313 => 100
  | 314 => 24
  | 315 => 60
  | 317 => 60
  | _ => 0
def AF : List Nat := [288, 289, 290, 292, 293, 294, 295, 296, 297, 298, 299, 300, 312, 313, 314, 315, 317]
/-- what never changes of the model: its cells, where its arrays lie -/
def MF (S : pS) (m : Nat) (as : Nat → Nat) : Prop := hk S m 9 ∧ (∀ f, f ∈ AF → gR S f m = some (as f) ∧ hk S (as f) 10 ∧ gN S (as f) = aN f) ∧ ∀ f g, f ∈ AF → g ∈ AF → as f = as g → f = g
/-- the pool S, the model's arrays being A, its ints F -/
def mP (S : pS) (m : Nat) (as : Nat → Nat) (A : Nat → Nat → Int32) (F : Nat → Int32) : pS :=
  (S.1, ((fun f a => if a = m then F f else gI S f a), gR S), gN S, ((fun a => match AF.find? (fun f => as f == a) with
    | some f => A f
    | none => gX S a), gY S))
section MP
variable {S : pS} {m : Nat} {as : Nat → Nat} {A : Nat → Nat → Int32} {F : Nat → Int32}
theorem mF_find (hM : MF S m as) {f : Nat} (hf : f ∈ AF) : AF.find? (fun g => as g == as f) = some f := by
  cases h : AF.find? (fun g => as g == as f) with
  | none =>
    have := List.find?_eq_none.mp h f hf
    simp at this
  | some g =>
    have h1 := List.find?_some h
    have h2 := List.mem_of_find?_eq_some h
    rw [hM.2.2 g f h2 hf (by simpa using h1)]
theorem mP_X (hM : MF S m as) {f : Nat} (hf : f ∈ AF) : gX (mP S m as A F) (as f) = A f := by
  show (match AF.find? (fun g => as g == as f) with | some f => A f | none => gX S (as f)) = A f
  rw [mF_find hM hf]
theorem mP_I {f : Nat} : gI (mP S m as A F) f m = F f := by
  show (if m = m then F f else gI S f m) = F f
  rw [if_pos rfl]
theorem mP_sX (hM : MF S m as) {f : Nat} (hf : f ∈ AF) (r : Nat → Int32) : sX (mP S m as A F) (as f) r = mP S m as (va_up A f r) F := by
  unfold sX mP
  simp only [gN, gX, gY, Prod.mk.injEq, true_and, and_true]
  funext a
  by_cases ha : a = as f
  · subst ha
    rw [va_up_self, mF_find hM hf]
    exact (va_up_self _ _ _).symm
  · rw [va_up_ne _ _ ha]
    cases h : AF.find? (fun g => as g == a) with
    | none => rfl
    | some g =>
      have h1 := List.find?_some h
      have hg : g ≠ f := fun e => ha (by subst e; exact (show as g = a by simpa using h1).symm)
      exact (va_up_ne _ _ hg).symm
theorem mP_sI {f : Nat} (v : Int32) : sI (mP S m as A F) f m v = mP S m as A (va_up F f v) := by
  unfold sI mP
  simp only [gI, gR, Prod.mk.injEq, true_and, and_true]
  funext g a
  by_cases hg : g = f
  · subst hg
    rw [va_up_self]
    by_cases ha : a = m
    · subst ha
      rw [va_up_self, if_pos rfl, va_up_self]
    · rw [va_up_ne _ _ ha, if_neg ha, if_neg ha]
  · rw [va_up_ne _ _ hg, va_up_ne _ _ hg]
theorem mF_k (hM : MF S m as) : hk (mP S m as A F) m 9 := hM.1
theorem mF_r (hM : MF S m as) {f : Nat} (hf : f ∈ AF) : gR (mP S m as A F) f m = some (as f) := (hM.2.1 f hf).1
theorem mF_a (hM : MF S m as) {f : Nat} (hf : f ∈ AF) : hk (mP S m as A F) (as f) 10 := (hM.2.1 f hf).2.1
theorem mF_n (hM : MF S m as) {f : Nat} (hf : f ∈ AF) : gN (mP S m as A F) (as f) = aN f := (hM.2.1 f hf).2.2
end MP
/-- the model's arrays with another row s -/
def uA (A : Nat → Nat → Int32) (σ : Nat → Int32) : Nat → Nat → Int32 := va_up A 288 σ
theorem uA_uA (A : Nat → Nat → Int32) (σ τ : Nat → Int32) : uA (uA A σ) τ = uA A τ := bx_uu A 288 σ τ
theorem uA_at (A : Nat → Nat → Int32) (σ : Nat → Int32) : uA A σ 288 = σ := va_up_self _ _ _
theorem uA_ne (A : Nat → Nat → Int32) (σ : Nat → Int32) {f : Nat} (h : f ≠ 288) : uA A σ f = A f := va_up_ne _ _ h
section VMM
variable {x : pX} {d : Nat} {M : pM} {Q : Option Value → pS → Prop} {b : Nat × Nat} {pc : Nat} {ls : List (Nat × Value)} {st : List Value} {S : pS} {m : Nat} {as : Nat → Nat} {A : Nat → Nat → Int32} {F : Nat → Int32}
theorem M_gr (hM : MF S m as) {i : Nat} (j f : Nat) (hd : decode (mB M) pc = .ok (.getfield i, 3)) (hw : FL M i 9 j) (hf : 32 * 9 + j = f) (ht : fint 9 j = false) (hA : f ∈ AF) (kk : V x d M Q b (pc + 3) ls (.ref (as f) :: st) (mP S m as A F)) : V x d M Q b pc ls (.ref m :: st) (mP S m as A F) := V_gr 9 j f hd hw hf ht (mF_k hM) (mF_r hM hA) kk
theorem M_gi (hM : MF S m as) {i : Nat} (j f : Nat) (hd : decode (mB M) pc = .ok (.getfield i, 3)) (hw : FL M i 9 j) (hf : 32 * 9 + j = f) (ht : fint 9 j = true) (kk : V x d M Q b (pc + 3) ls (.int (F f) :: st) (mP S m as A F)) : V x d M Q b pc ls (.ref m :: st) (mP S m as A F) := V_gi 9 j f hd hw hf ht (mF_k hM) (by rw [mP_I]; exact kk)
theorem M_pi (hM : MF S m as) {i : Nat} {v : Int32} (j f : Nat) (hd : decode (mB M) pc = .ok (.putfield i, 3)) (hw : FL M i 9 j) (hf : 32 * 9 + j = f) (ht : tyF 9 j = .int) (hfin : (TF 9 j).2.2.2 = false) (kk : V x d M Q b (pc + 3) ls st (mP S m as A (va_up F f v))) : V x d M Q b pc ls (.int v :: .ref m :: st) (mP S m as A F) := V_pi 9 j f hd hw hf ht hfin (mF_k hM) (by rw [mP_sI]; exact kk)
theorem M_pz (hM : MF S m as) {i : Nat} {v : Int32} (j f : Nat) (hd : decode (mB M) pc = .ok (.putfield i, 3)) (hw : FL M i 9 j) (hf : 32 * 9 + j = f) (ht : tyF 9 j = .boolean) (hfin : (TF 9 j).2.2.2 = false) (hn : narrow .boolean (.int v) = .int v) (hn2 : fits .boolean (.int v) = true) (kk : V x d M Q b (pc + 3) ls st (mP S m as A (va_up F f v))) : V x d M Q b pc ls (.int v :: .ref m :: st) (mP S m as A F) := V_pz 9 j f hd hw hf ht hfin (mF_k hM) hn hn2 (by rw [mP_sI]; exact kk)
theorem M_ia (hM : MF S m as) {i : Int32} (f k : Nat) (hd : decode (mB M) pc = .ok (.iaload, 1)) (hA : f ∈ AF) (hN : aN f < 2 ^ 31) (hi : i = nI k) (hk : k < aN f) (kk : V x d M Q b (pc + 1) ls (.int (A f k) :: st) (mP S m as A F)) : V x d M Q b pc ls (.int i :: .ref (as f) :: st) (mP S m as A F) := V_ia k hd (mF_a hM hA) (mF_n hM hA) hN hi hk (by rw [mP_X hM hA]; exact kk)
theorem M_ias (hM : MF S m as) {i v : Int32} (f k : Nat) (hd : decode (mB M) pc = .ok (.iastore, 1)) (hA : f ∈ AF) (hN : aN f < 2 ^ 31) (hi : i = nI k) (hk : k < aN f) (kk : V x d M Q b (pc + 1) ls st (mP S m as (va_up A f (upd (A f) k v)) F)) : V x d M Q b pc ls (.int v :: .int i :: .ref (as f) :: st) (mP S m as A F) := V_ias k hd (mF_a hM hA) (mF_n hM hA) hN hi hk (by rw [mP_X hM hA, mP_sX hM hA]; exact kk)
theorem M_iasS (hM : MF S m as) {i v : Int32} (k : Nat) (hd : decode (mB M) pc = .ok (.iastore, 1)) (hi : i = nI k) (hk : k < aN 288) (kk : V x d M Q b (pc + 1) ls st (mP S m as (uA A (upd (A 288) k v)) F)) : V x d M Q b pc ls (.int v :: .int i :: .ref (as 288) :: st) (mP S m as A F) := M_ias hM 288 k hd (by decide) (by decide) hi hk kk
end VMM
