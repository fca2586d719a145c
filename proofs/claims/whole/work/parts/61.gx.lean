/-! ===== cells are made ===== -/
/-- cells outside D rest; new ones are no Texts -/
def GX (D : Nat → Prop) (P P' : pS) : Prop := (∀ b, b ∈ gL P → b ∈ gL P' ∧ gK P' b = gK P b ∧ (¬ D b → gN P' b = gN P b ∧ (∀ f, gR P' f b = gR P f b) ∧ gY P' b = gY P b ∧ (∀ f, gI P' f b = gI P f b) ∧ gX P' b = gX P b)) ∧ ∀ b, b ∈ gL P' → b ∉ gL P → gK P' b ≠ 5
/-- an object's cell; a row of ints; a row of refs -/
def OB (S : pS) (b k : Nat) (R : Nat → Option Nat) (J : Nat → Int32) : Prop := hk S b k ∧ (∀ f, gR S f b = R f) ∧ ∀ f, gI S f b = J f
def AR (S : pS) (b n : Nat) (X : Nat → Int32) : Prop := hk S b 10 ∧ gN S b = n ∧ gX S b = X
def RA (S : pS) (b k n : Nat) (Y : Nat → Option Nat) : Prop := hk S b k ∧ gN S b = n ∧ gY S b = Y
section GXS
variable {D E : Nat → Prop} {P P' P2 S S' : pS} {a b e k n f : Nat} {R : Nat → Option Nat} {J X : Nat → Int32} {Y : Nat → Option Nat}
theorem GX.rf : GX D P P := ⟨fun _ h => ⟨h, rfl, fun _ => ⟨rfl, fun _ => rfl, rfl, fun _ => rfl, rfl⟩⟩, fun _ h q => absurd h q⟩
theorem GX.sub (h : GX D P P') (hb : b ∈ gL P) : b ∈ gL P' := (h.1 b hb).1
theorem GX.out (h : GX D P P') (hb : b ∉ gL P') : b ∉ gL P := fun q => hb (h.sub q)
theorem GX.hk (h : GX D P P') (w : hk P b k) : hk P' b k := ⟨h.sub w.1, (h.1 b w.1).2.1.trans w.2⟩
theorem GX.tr (h : GX D P P') (h2 : GX E P' P2) (hD : ∀ b, b ∈ gL P → E b → D b) : GX D P P2 := by
  refine ⟨fun b hb => ?_, fun b hb q => ?_⟩
  · obtain ⟨a1, a2, a3⟩ := h.1 b hb
    obtain ⟨b1, b2, b3⟩ := h2.1 b a1
    refine ⟨b1, b2.trans a2, fun q => ?_⟩
    obtain ⟨c1, c2, c3, c4, c5⟩ := a3 q
    obtain ⟨d1, d2, d3, d4, d5⟩ := b3 (fun w => q (hD b hb w))
    exact ⟨d1.trans c1, fun f => (d2 f).trans (c2 f), d3.trans c3, fun f => (d4 f).trans (c4 f), d5.trans c5⟩
  · by_cases w : b ∈ gL P'
    · rw [(h2.1 b w).2.1]; exact h.2 b w q
    · exact h2.2 b hb w
theorem GX.mo (h : GX E P P') (hD : ∀ b, b ∈ gL P → E b → D b) : GX D P P' := GX.tr GX.rf h hD
theorem gx_O (ha : a ∉ gL S) (hk5 : k ≠ 5) : GX (fun z => z = a) S (nO S a k) := ⟨fun b hb => by
  have n : b ≠ a := fun q => ha (q ▸ hb)
  exact ⟨List.mem_append_left _ hb, va_up_ne _ _ n, fun _ => ⟨rfl, fun f => va_up_ne _ _ n, rfl, fun f => va_up_ne _ _ n, rfl⟩⟩, fun b hb q => by
  have w : b ∈ gL S ++ [a] := hb
  rcases List.mem_append.mp w with w | w
  · exact absurd w q
  · rw [List.mem_singleton.mp w]; exact fun u => hk5 ((va_up_self _ _ _).symm.trans u)⟩
theorem gx_X (ha : a ∉ gL S) : GX (fun z => z = a) S (nX S a n) := ⟨fun b hb => by
  have n : b ≠ a := fun q => ha (q ▸ hb)
  exact ⟨List.mem_append_left _ hb, va_up_ne _ _ n, fun _ => ⟨va_up_ne _ _ n, fun f => rfl, rfl, fun f => rfl, va_up_ne _ _ n⟩⟩, fun b hb q => by
  have w : b ∈ gL S ++ [a] := hb
  rcases List.mem_append.mp w with w | w
  · exact absurd w q
  · rw [List.mem_singleton.mp w]; exact fun u => absurd ((va_up_self _ _ _).symm.trans u) (by decide)⟩
theorem gx_Y (ha : a ∉ gL S) (hk5 : k ≠ 5) : GX (fun z => z = a) S (nY S a k n) := ⟨fun b hb => by
  have n : b ≠ a := fun q => ha (q ▸ hb)
  exact ⟨List.mem_append_left _ hb, va_up_ne _ _ n, fun _ => ⟨va_up_ne _ _ n, fun f => rfl, va_up_ne _ _ n, fun f => rfl, rfl⟩⟩, fun b hb q => by
  have w : b ∈ gL S ++ [a] := hb
  rcases List.mem_append.mp w with w | w
  · exact absurd w q
  · rw [List.mem_singleton.mp w]; exact fun u => hk5 ((va_up_self _ _ _).symm.trans u)⟩
theorem gx_I {v : Int32} : GX (fun z => z = a) S (sI S f a v) := ⟨fun b hb => ⟨hb, rfl, fun n => ⟨rfl, fun _ => rfl, rfl, fun g => by rw [gI_sI, if_neg (fun w => n w.2)], rfl⟩⟩, fun _ h q => absurd h q⟩
theorem gx_R {v : Option Nat} : GX (fun z => z = a) S (sR S f a v) := ⟨fun b hb => ⟨hb, rfl, fun n => ⟨rfl, fun g => by rw [gR_sR, if_neg (fun w => n w.2)], rfl, fun _ => rfl, rfl⟩⟩, fun _ h q => absurd h q⟩
theorem gx_sX {r : Nat → Int32} : GX (fun z => z = a) S (sX S a r) := ⟨fun b hb => ⟨hb, rfl, fun n => ⟨rfl, fun _ => rfl, rfl, fun _ => rfl, va_up_ne _ _ n⟩⟩, fun _ h q => absurd h q⟩
theorem gx_sY {r : Nat → Option Nat} : GX (fun z => z = a) S (sY S a r) := ⟨fun b hb => ⟨hb, rfl, fun n => ⟨rfl, fun _ => rfl, va_up_ne _ _ n, fun _ => rfl, rfl⟩⟩, fun _ h q => absurd h q⟩
theorem OB.gx (h : OB S b k R J) (G : GX D S S') (n : ¬ D b) : OB S' b k R J := by
  obtain ⟨-, -, q⟩ := G.1 b h.1.1
  obtain ⟨-, q2, -, q4, -⟩ := q n
  exact ⟨G.hk h.1, fun f => (q2 f).trans (h.2.1 f), fun f => (q4 f).trans (h.2.2 f)⟩
theorem AR.gx (h : AR S b n X) (G : GX D S S') (w : ¬ D b) : AR S' b n X := by
  obtain ⟨-, -, q⟩ := G.1 b h.1.1
  obtain ⟨q1, -, -, -, q5⟩ := q w
  exact ⟨G.hk h.1, q1.trans h.2.1, q5.trans h.2.2⟩
theorem RA.gx (h : RA S b k n Y) (G : GX D S S') (w : ¬ D b) : RA S' b k n Y := by
  obtain ⟨-, -, q⟩ := G.1 b h.1.1
  obtain ⟨q1, -, q3, -, -⟩ := q w
  exact ⟨G.hk h.1, q1.trans h.2.1, q3.trans h.2.2⟩
theorem ob_new : OB (nO S a k) a k (fun _ => none) (fun _ => 0) := ⟨hkO_s, fun _ => va_up_self _ _ _, fun _ => va_up_self _ _ _⟩
theorem ar_new : AR (nX S a n) a n (fun _ => 0) := ⟨hkX_s (j := n), va_up_self _ _ _, va_up_self _ _ _⟩
theorem ra_new : RA (nY S a k n) a k n (fun _ => none) := ⟨hkY_s (j := n), va_up_self _ _ _, va_up_self _ _ _⟩
theorem OB.wI (h : OB S b k R J) {v : Int32} : OB (sI S f b v) b k R (va_up J f v) := ⟨h.1, h.2.1, fun g => by
  rw [gI_sI]
  by_cases q : g = f
  · subst q; rw [if_pos ⟨rfl, rfl⟩, va_up_self]
  · rw [if_neg (fun w => q w.1), va_up_ne _ _ q]; exact h.2.2 g⟩
theorem OB.wR (h : OB S b k R J) {v : Option Nat} : OB (sR S f b v) b k (va_up R f v) J := ⟨h.1, fun g => by
  rw [gR_sR]
  by_cases q : g = f
  · subst q; rw [if_pos ⟨rfl, rfl⟩, va_up_self]
  · rw [if_neg (fun w => q w.1), va_up_ne _ _ q]; exact h.2.1 g, h.2.2⟩
theorem AR.w (h : AR S b n X) {j : Nat} {v : Int32} : AR (sX S b (upd (gX S b) j v)) b n (upd X j v) := ⟨h.1, h.2.1, by rw [gX_sX, if_pos rfl, h.2.2]⟩
theorem AR.wx (h : AR S b n X) {r : Nat → Int32} : AR (sX S b r) b n r := ⟨h.1, h.2.1, by rw [gX_sX, if_pos rfl]⟩
theorem RA.w (h : RA S b k n Y) {j : Nat} {v : Option Nat} : RA (sY S b (va_up (gY S b) j v)) b k n (va_up Y j v) := ⟨h.1, h.2.1, by rw [gY_sY, if_pos rfl, h.2.2]⟩
end GXS
/-- no two alike -/
def nd : List Nat → Prop
  | [] => True
  | a :: l => (∀ b, b ∈ l → b ≠ a) ∧ nd l
theorem nd_inj : ∀ (l : List Nat), nd l → ∀ i j, i < l.length → j < l.length → l.getD i 0 = l.getD j 0 → i = j
  | [], _, i, j, hi, _, _ => absurd hi (Nat.not_lt_zero i)
  | a :: l, h, 0, 0, _, _, _ => rfl
  | a :: l, h, i + 1, 0, hi, _, e => by
    have hi' : i < l.length := by simpa using hi
    have e' : l.getD i 0 = a := e
    refine absurd e' (h.1 _ ?_)
    rw [List.getD_eq_getElem?_getD, List.getElem?_eq_getElem hi']
    exact List.getElem_mem hi'
  | a :: l, h, 0, j + 1, _, hj, e => by
    have hj' : j < l.length := by simpa using hj
    have e' : a = l.getD j 0 := e
    refine absurd e'.symm (h.1 _ ?_)
    rw [List.getD_eq_getElem?_getD, List.getElem?_eq_getElem hj']
    exact List.getElem_mem hj'
  | a :: l, h, i + 1, j + 1, hi, hj, e => congrArg (· + 1) (nd_inj l h.2 i j (by simpa using hi) (by simpa using hj) e)
def Nd (S : pS) (l : List Nat) : Prop := nd l ∧ ∀ b, b ∈ l → b ∈ gL S
theorem Nd.nil {S : pS} : Nd S [] := ⟨trivial, fun _ h => absurd h List.not_mem_nil⟩
theorem Nd.gx {S S' : pS} {D : Nat → Prop} {l : List Nat} (h : Nd S l) (G : GX D S S') : Nd S' l := ⟨h.1, fun b hb => G.sub (h.2 b hb)⟩
theorem Nd.c {S S' : pS} {D : Nat → Prop} {l : List Nat} {a : Nat} (h : Nd S l) (ha : a ∉ gL S) (G : GX D S S') (ha' : a ∈ gL S') : Nd S' (a :: l) := ⟨⟨fun b hb e => ha (e ▸ h.2 b hb), h.1⟩, fun b hb => by
  rcases List.mem_cons.mp hb with e | e
  · rw [e]; exact ha'
  · exact G.sub (h.2 b e)⟩
/-- one more of a bunch that came together -/
theorem Nd.i {S : pS} {l : List Nat} {a : Nat} (h : Nd S l) (ha : ∀ b, b ∈ l → b ≠ a) (ha' : a ∈ gL S) : Nd S (a :: l) := ⟨⟨ha, h.1⟩, fun b hb => by
  rcases List.mem_cons.mp hb with e | e
  · rw [e]; exact ha'
  · exact h.2 b e⟩
