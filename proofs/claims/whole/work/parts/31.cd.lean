/-! ===== the class: what rests of a pool, what is touched ===== -/
abbrev pT : Type := (List Nat × (Nat → Nat)) × (Nat → Nat → Option Nat) × (Nat → Nat) × (Nat → Nat → Option Nat)
def sp (P : pS) : pT := (P.1, gR P, gN P, gY P)
def fr (T : Nat → Prop) (P P' : pS) : Prop := sp P' = sp P ∧ (∀ f a, ¬ T a → gI P' f a = gI P f a) ∧ (∀ a, ¬ T a → gX P' a = gX P a)
theorem fr.rf {T : Nat → Prop} {P : pS} : fr T P P := ⟨rfl, fun _ _ _ => rfl, fun _ _ => rfl⟩
theorem fr.tr {T : Nat → Prop} {P P1 P2 : pS} (h : fr T P P1) (h2 : fr T P1 P2) : fr T P P2 := ⟨h2.1.trans h.1, fun f a q => (h2.2.1 f a q).trans (h.2.1 f a q), fun a q => (h2.2.2 a q).trans (h.2.2 a q)⟩
theorem fr.mono {T T' : Nat → Prop} {P P' : pS} (h : fr T P P') (hT : ∀ a, T a → T' a) : fr T' P P' := ⟨h.1, fun f a q => h.2.1 f a (fun w => q (hT a w)), fun a q => h.2.2 a (fun w => q (hT a w))⟩
theorem fr.sI {T : Nat → Prop} {P P' : pS} (h : fr T P P') {a : Nat} (ha : T a) (f : Nat) (v : Int32) : fr T P (sI P' f a v) := ⟨h.1, fun g b q => by rw [gI_sI, if_neg (fun (w : g = f ∧ b = a) => q (by rw [w.2]; exact ha))]; exact h.2.1 g b q, fun b q => h.2.2 b q⟩
theorem fr.sX {T : Nat → Prop} {P P' : pS} (h : fr T P P') {a : Nat} (ha : T a) (r : Nat → Int32) : fr T P (sX P' a r) := ⟨h.1, fun g b q => h.2.1 g b q, fun b q => by
  show va_up (gX P') a r b = gX P b
  have hb : b ≠ a := fun w => q (by rw [w]; exact ha)
  rw [va_up_ne _ _ hb]; exact h.2.2 b q⟩
theorem gX_sX (P : pS) (a : Nat) (r : Nat → Int32) (b : Nat) : gX (sX P a r) b = if b = a then r else gX P b := rfl
theorem hk_sp {P P' : pS} (h : sp P' = sp P) {a k : Nat} : hk P' a k ↔ hk P a k := by
  have e : P'.1 = P.1 := congrArg (fun q : pT => q.1) h
  unfold hk gL gK; rw [e]
theorem gR_sp {P P' : pS} (h : sp P' = sp P) : gR P' = gR P := congrArg (fun q : pT => q.2.1) h
theorem gN_sp {P P' : pS} (h : sp P' = sp P) : gN P' = gN P := congrArg (fun q : pT => q.2.2.1) h
theorem gY_sp {P P' : pS} (h : sp P' = sp P) : gY P' = gY P := congrArg (fun q : pT => q.2.2.2) h
/-- a row that texts work on -/
def stk (P : pS) (a : Nat) : Prop := ∃ τ, hk P τ 5 ∧ gR P 163 τ = some a
theorem stk_sp {P P' : pS} (h : sp P' = sp P) {a : Nat} : stk P' a ↔ stk P a := by
  unfold stk; rw [gR_sp h]
  exact ⟨fun ⟨τ, q, r⟩ => ⟨τ, (hk_sp h).mp q, r⟩, fun ⟨τ, q, r⟩ => ⟨τ, (hk_sp h).mpr q, r⟩⟩
/-! a World: its cells ad 0 .. ad 19 (but 9): the World, its weights' row, arms, book, book's row, texts, counting, spare, order; weights from 10 on -/
def wK : Nat → Nat
  | 0 => 7
  | 1 => 14
  | 2 => 10
  | 3 => 0
  | 4 => 10
  | 5 => 13
  | 6 => 10
  | 7 => 6
  | 8 => 10
  | _ => 6
def wN : Nat → Nat
  | 1 => 10
  | 2 => 8
  | 4 => 100
  | 5 => 14
  | 6 => 3
  | 8 => 10
  | _ => 0
abbrev wIx (i : Nat) : Prop := i < 20 ∧ i ≠ 9
def WS (P : pS) (ad : Nat → Nat) : Prop := (∀ i, wIx i → hk P (ad i) (wK i)) ∧ (∀ i, i ∈ [1, 2, 4, 5, 6, 8] → gN P (ad i) = wN i) ∧ (gR P 224 (ad 0) = some (ad 1) ∧ gR P 226 (ad 0) = some (ad 2) ∧ gR P 227 (ad 0) = some (ad 3) ∧ gR P 231 (ad 0) = some (ad 5) ∧ gR P 233 (ad 0) = some (ad 6) ∧ gR P 234 (ad 0) = some (ad 7) ∧ gR P 235 (ad 0) = some (ad 8) ∧ gR P 0 (ad 3) = some (ad 4)) ∧ (∀ i, i < 10 → gY P (ad 1) i = some (ad (10 + i))) ∧ (∀ i j, wIx i → wIx j → ad i = ad j → i = j) ∧ (∀ a, stk P a → hk P a 10 ∧ ∀ i, wIx i → a ≠ ad i) ∧ (∀ τ a, hk P τ 5 → gR P 162 τ = some a → ¬ stk P a ∧ ∀ i, wIx i → a ≠ ad i)
theorem WS.sp {P P' : pS} {ad : Nat → Nat} (h : WS P ad) (e : sp P' = sp P) : WS P' ad := by
  unfold WS at *
  rw [gR_sp e, gN_sp e, gY_sp e]
  refine ⟨fun i hi => (hk_sp e).mpr (h.1 i hi), h.2.1, h.2.2.1, h.2.2.2.1, h.2.2.2.2.1, fun a q => ⟨(hk_sp e).mpr (h.2.2.2.2.2.1 a ((stk_sp e).mp q)).1, (h.2.2.2.2.2.1 a ((stk_sp e).mp q)).2⟩, fun τ a q r => ?_⟩
  obtain ⟨h1, h2⟩ := h.2.2.2.2.2.2 τ a ((hk_sp e).mp q) r
  exact ⟨fun w => h1 ((stk_sp e).mp w), h2⟩
theorem WS.k {P : pS} {ad : Nat → Nat} (h : WS P ad) (i : Nat) (hi : wIx i) {k : Nat} (hk' : wK i = k) : hk P (ad i) k := hk' ▸ h.1 i hi
theorem WS.w {P : pS} {ad : Nat → Nat} (h : WS P ad) {i : Nat} (hi : i < 10) : hk P (ad (10 + i)) 6 := by
  have q := h.1 (10 + i) ⟨by omega, by omega⟩
  have e : wK (10 + i) = 6 := by unfold wK; split <;> first | rfl | omega
  rw [e] at q; exact q
/-- which int field of which cell is which number of the row -/
abbrev cI (f i k : Nat) : Prop := (i = 0 ∧ ((f = 225 ∧ k = 0) ∨ (f = 228 ∧ k = 2) ∨ (f = 229 ∧ k = 3) ∨ (f = 230 ∧ k = 4) ∨ (f = 232 ∧ k = 1))) ∨ (i = 3 ∧ f = 1 ∧ k = 5) ∨ (10 ≤ i ∧ i < 20 ∧ 192 ≤ f ∧ f < 196 ∧ k + 192 + 40 = 14 + 4 * i + f)
def WR (P : pS) (ad : Nat → Nat) (σ : Nat → Int32) : Prop := (∀ f i k, cI f i k → gI P f (ad i) = σ k) ∧ (∀ j, j < 8 → gX P (ad 2) j = σ (6 + j)) ∧ (∀ j, j < 100 → gX P (ad 4) j = σ (54 + j))
/-- what a World's doings touch -/
def wT (P : pS) (ad : Nat → Nat) (a : Nat) : Prop := stk P a ∨ ∃ i, wIx i ∧ i ≠ 5 ∧ i ≠ 6 ∧ a = ad i
def wfr (ad : Nat → Nat) (P P' : pS) : Prop := fr (wT P ad) P P'
theorem wfr.rf {ad : Nat → Nat} {P : pS} : wfr ad P P := fr.rf
theorem wT_sp {P P' : pS} (h : sp P' = sp P) {ad : Nat → Nat} {a : Nat} : wT P' ad a ↔ wT P ad a := by unfold wT; rw [stk_sp h]
theorem wfr.tr {ad : Nat → Nat} {P P1 P2 : pS} (h : wfr ad P P1) (h2 : wfr ad P1 P2) : wfr ad P P2 := fr.tr h (fr.mono h2 (fun a q => (wT_sp h.1).mp q))
theorem wfr.I {ad : Nat → Nat} {P P' : pS} (h : wfr ad P P') {i : Nat} (hi : wIx i) (h5 : i ≠ 5) (h6 : i ≠ 6) (f : Nat) (v : Int32) : wfr ad P (sI P' f (ad i) v) := fr.sI h (Or.inr ⟨i, hi, h5, h6, rfl⟩) f v
theorem wfr.X {ad : Nat → Nat} {P P' : pS} (h : wfr ad P P') {i : Nat} (hi : wIx i) (h5 : i ≠ 5) (h6 : i ≠ 6) (r : Nat → Int32) : wfr ad P (sX P' (ad i) r) := fr.sX h (Or.inr ⟨i, hi, h5, h6, rfl⟩) r
theorem wfr.Xu {ad : Nat → Nat} {P P' : pS} (h : wfr ad P P') {i : Nat} (hi : wIx i) (h5 : i ≠ 5) (h6 : i ≠ 6) (k : Nat) (v : Int32) : wfr ad P (sX P' (ad i) (upd (gX P' (ad i)) k v)) := h.X hi h5 h6 _
theorem wfr.Z {ad : Nat → Nat} {P P' : pS} (h : wfr ad P P') {c : Nat} (hc : stk P c) (r : Nat → Int32) : wfr ad P (sX P' c r) := fr.sX h (Or.inl hc) r
theorem cI_ix {f i k : Nat} (h : cI f i k) : wIx i ∧ i ≠ 5 ∧ i ≠ 6 ∧ i ≠ 7 := by unfold cI at h; unfold wIx; omega
theorem cI_1 {f i k f' i' k' : Nat} (h : cI f i k) (h' : cI f' i' k') : (f' = f ∧ i' = i) ↔ k' = k := by unfold cI at *; omega
section WRS
variable {P : pS} {ad : Nat → Nat} {σ : Nat → Int32}
theorem WR.I (h : WR P ad σ) (hS : WS P ad) {f i k : Nat} (hc : cI f i k) (v : Int32) : WR (sI P f (ad i) v) ad (upd σ k v) := by
  refine ⟨fun f' i' k' hc' => ?_, fun j hj => ?_, fun j hj => ?_⟩
  · rw [gI_sI]
    by_cases q : k' = k
    · subst q
      obtain ⟨e1, e2⟩ := (cI_1 hc hc').mpr rfl
      subst e1; subst e2
      rw [if_pos ⟨rfl, rfl⟩, pk_us]
    · rw [pk_un q, if_neg (fun w => q ((cI_1 hc hc').mp ⟨w.1, hS.2.2.2.2.1 _ _ (cI_ix hc').1 (cI_ix hc).1 w.2⟩))]
      exact h.1 _ _ _ hc'
  · rw [pk_un (by unfold cI at hc; omega)]; exact h.2.1 j hj
  · rw [pk_un (by unfold cI at hc; omega)]; exact h.2.2 j hj
theorem WR.sp7 (h : WR P ad σ) (hS : WS P ad) (f : Nat) (v : Int32) : WR (sI P f (ad 7) v) ad σ := by
  refine ⟨fun f' i' k' hc' => ?_, h.2.1, h.2.2⟩
  rw [gI_sI, if_neg (fun w => (cI_ix hc').2.2.2 (hS.2.2.2.2.1 _ _ (cI_ix hc').1 (by unfold wIx; omega) w.2))]
  exact h.1 _ _ _ hc'
theorem WR.A (h : WR P ad σ) (hS : WS P ad) {j : Nat} (hj : j < 8) (v : Int32) : WR (sX P (ad 2) (upd (gX P (ad 2)) j v)) ad (upd σ (6 + j) v) := by
  refine ⟨fun f i k hc => ?_, fun j' hj' => ?_, fun j' hj' => ?_⟩
  · rw [pk_un (by unfold cI at hc; omega)]; exact h.1 _ _ _ hc
  · rw [gX_sX, if_pos rfl]
    by_cases q : j' = j
    · subst q; rw [pk_us, pk_us]
    · rw [pk_un q, pk_un (by omega)]; exact h.2.1 j' hj'
  · rw [gX_sX, if_neg (fun w => absurd (hS.2.2.2.2.1 4 2 (by unfold wIx; omega) (by unfold wIx; omega) w) (by decide)), pk_un (by omega)]; exact h.2.2 j' hj'
theorem WR.Rw (h : WR P ad σ) (hS : WS P ad) {j : Nat} (hj : j < 100) (v : Int32) : WR (sX P (ad 4) (upd (gX P (ad 4)) j v)) ad (upd σ (54 + j) v) := by
  refine ⟨fun f i k hc => ?_, fun j' hj' => ?_, fun j' hj' => ?_⟩
  · rw [pk_un (by unfold cI at hc; omega)]; exact h.1 _ _ _ hc
  · rw [gX_sX, if_neg (fun w => absurd (hS.2.2.2.2.1 2 4 (by unfold wIx; omega) (by unfold wIx; omega) w) (by decide)), pk_un (by omega)]; exact h.2.1 j' hj'
  · rw [gX_sX, if_pos rfl]
    by_cases q : j' = j
    · subst q; rw [pk_us, pk_us]
    · rw [pk_un q, pk_un (by omega)]; exact h.2.2 j' hj'
theorem WR.oth (h : WR P ad σ) {a : Nat} (h2 : a ≠ ad 2) (h4 : a ≠ ad 4) (r : Nat → Int32) : WR (sX P a r) ad σ := by
  refine ⟨fun f i k hc => h.1 _ _ _ hc, fun j hj => ?_, fun j hj => ?_⟩
  · rw [gX_sX, if_neg (Ne.symm h2)]; exact h.2.1 j hj
  · rw [gX_sX, if_neg (Ne.symm h4)]; exact h.2.2 j hj
theorem WR.Z (h : WR P ad σ) (hS : WS P ad) {c : Nat} (hc : stk P c) (r : Nat → Int32) : WR (sX P c r) ad σ := h.oth ((hS.2.2.2.2.2.1 c hc).2 2 (by unfold wIx; omega)) ((hS.2.2.2.2.2.1 c hc).2 4 (by unfold wIx; omega)) r
theorem WR.ord (h : WR P ad σ) (hS : WS P ad) (r : Nat → Int32) : WR (sX P (ad 8) r) ad σ := h.oth (fun w => absurd (hS.2.2.2.2.1 8 2 (by unfold wIx; omega) (by unfold wIx; omega) w) (by decide)) (fun w => absurd (hS.2.2.2.2.1 8 4 (by unfold wIx; omega) (by unfold wIx; omega) w) (by decide)) r
/-- under another World's doings a World rests -/
theorem WR.fr (h : WR P ad σ) {P' : pS} {T : Nat → Prop} (hf : fr T P P') (hT : ∀ i, wIx i → ¬ T (ad i)) : WR P' ad σ := by
  refine ⟨fun f i k hc => ?_, fun j hj => ?_, fun j hj => ?_⟩
  · rw [hf.2.1 f _ (hT i (cI_ix hc).1)]; exact h.1 _ _ _ hc
  · rw [hf.2.2 _ (hT 2 (by unfold wIx; omega))]; exact h.2.1 j hj
  · rw [hf.2.2 _ (hT 4 (by unfold wIx; omega))]; exact h.2.2 j hj
end WRS
/-! texts -/
/-- a step as the class holds it -/
def enc (key w v : Int32) : Int32 := if w = 0 then v else if w = 1 then (if key = 0 then (if v = 103 then 10000 else if v = 116 then 10001 else 10002) else if key = 1 then (if v = 115 then 10000 else 10001) else (if v = 108 then 10000 else 10001)) else -v
def TO (P : pS) (τ : Nat) (σ : Nat → Int32) (t : Nat) : Prop := hk P τ 5 ∧ gI P 160 τ = σ (154 + 200 * t) ∧ gI P 161 τ = σ (155 + 200 * t) ∧ ∃ a c many pcs : Nat, gR P 162 τ = some a ∧ hk P a 10 ∧ gN P a = many ∧ wfT σ t many ∧ (∀ k, k < many → gX P a k = enc (σ (154 + 200 * t)) (σ (158 + 200 * t + 2 * k)) (σ (159 + 200 * t + 2 * k))) ∧ gR P 163 τ = some c ∧ hk P c 10 ∧ gN P c = pcs ∧ σ (155 + 200 * t) = nI pcs ∧ pcs ≤ 96 ∧ (∀ k, k < many → ¬ σ (158 + 200 * t + 2 * k) = 2 → hgt σ t k < pcs) ∧ (∀ k, k < many → σ (158 + 200 * t + 2 * k) = 0 → ∃ v : Nat, v < 10000 ∧ σ (159 + 200 * t + 2 * k) = nI v) ∧ (∀ k, k < many → σ (158 + 200 * t + 2 * k) = 2 → σ (159 + 200 * t + 2 * k) = 33 ∨ lvOf (σ (159 + 200 * t + 2 * k)) < 5) ∧ (σ (154 + 200 * t) = 0 ∨ σ (154 + 200 * t) = 1 ∨ σ (154 + 200 * t) = 2)
def TX (P : pS) (ad : Nat → Nat) (σ : Nat → Int32) (nt : Nat) : Prop := (∀ t, t < nt → ∃ τ, gY P (ad 5) t = some τ ∧ TO P τ σ t) ∧ (∀ k, k < 3 → gX P (ad 6) k = if fcnt σ (nI k) nt < 0 then -1000000005 else fcnt σ (nI k) nt)
/-- rows alike where texts lie -/
def tl (σ σ' : Nat → Int32) : Prop := ∀ k, 154 ≤ k → σ' k = σ k
theorem tl.rf {σ : Nat → Int32} : tl σ σ := fun _ _ => rfl
theorem tl.tr {σ τ υ : Nat → Int32} (h : tl σ τ) (h2 : tl τ υ) : tl σ υ := fun k hk => (h2 k hk).trans (h k hk)
theorem tl.up {σ τ : Nat → Int32} (h : tl σ τ) {k : Nat} (hk : k < 154) (v : Int32) : tl σ (upd τ k v) := fun j hj => by rw [pk_un (by omega)]; exact h j hj
theorem hgt_tl {σ σ' : Nat → Int32} (h : tl σ σ') (t : Nat) : ∀ k, hgt σ' t k = hgt σ t k
  | 0 => rfl
  | k + 1 => by
    unfold hgt
    rw [h _ (by omega), h _ (by omega), hgt_tl h t k]
theorem wfT_tl {σ σ' : Nat → Int32} (h : tl σ σ') {t many : Nat} (hw : wfT σ t many) : wfT σ' t many := by
  unfold wfT at *
  rw [h _ (by omega), hgt_tl h]
  refine ⟨hw.1, hw.2.1, hw.2.2.1, fun k hk => ?_, hw.2.2.2.2⟩
  rw [hgt_tl h, h _ (by omega), h _ (by omega), h _ (by omega)]
  exact hw.2.2.2.1 k hk
theorem fcnt_tl {σ σ' : Nat → Int32} (h : tl σ σ') (key : Int32) : ∀ nt, fcnt σ' key nt = fcnt σ key nt
  | 0 => rfl
  | nt + 1 => by unfold fcnt; rw [h _ (by omega), fcnt_tl h key nt]
theorem TO.fr {P P' : pS} {T : Nat → Prop} {τ t : Nat} {σ σ' : Nat → Int32} (h : TO P τ σ t) (hf : fr T P P') (hl : tl σ σ') (h1 : ¬ T τ) (h2 : ∀ a, gR P 162 τ = some a → ¬ T a) : TO P' τ σ' t := by
  obtain ⟨q1, q2, q3, a, c, many, pcs, r1, r2, r3, r4, r5, r6, r7, r8, r9, r10, r11, r12, r13, r14⟩ := h
  refine ⟨(hk_sp hf.1).mpr q1, by rw [hf.2.1 _ _ h1, hl _ (by omega)]; exact q2, by rw [hf.2.1 _ _ h1, hl _ (by omega)]; exact q3, a, c, many, pcs, by rw [gR_sp hf.1]; exact r1, (hk_sp hf.1).mpr r2, by rw [gN_sp hf.1]; exact r3, wfT_tl hl r4, fun k hk => ?_, by rw [gR_sp hf.1]; exact r6, (hk_sp hf.1).mpr r7, by rw [gN_sp hf.1]; exact r8, by rw [hl _ (by omega)]; exact r9, r10, fun k hk => ?_, fun k hk => ?_, fun k hk => ?_, ?_⟩
  · rw [hf.2.2 _ (h2 a r1), hl _ (by omega), hl _ (by omega), hl _ (by omega)]; exact r5 k hk
  · rw [hl _ (by omega), hgt_tl hl]; exact r11 k hk
  · rw [hl _ (by omega), hl _ (by omega)]; exact r12 k hk
  · rw [hl _ (by omega), hl _ (by omega)]; exact r13 k hk
  · rw [hl _ (by omega)]; exact r14
/-- texts rest under doings that touch no text, no row of one, and not what the World knows of them -/
theorem TX.fr {P P' : pS} {T : Nat → Prop} {ad : Nat → Nat} {nt : Nat} {σ σ' : Nat → Int32} (h : TX P ad σ nt) (hf : fr T P P') (hl : tl σ σ') (h0 : ∀ τ, hk P τ 5 → ¬ T τ) (h1 : ∀ τ a, hk P τ 5 → gR P 162 τ = some a → ¬ T a) (h6 : ¬ T (ad 6)) : TX P' ad σ' nt := by
  refine ⟨fun t ht => ?_, fun k hk => ?_⟩
  · obtain ⟨τ, e, q⟩ := h.1 t ht
    exact ⟨τ, by rw [gY_sp hf.1]; exact e, q.fr hf hl (h0 τ q.1) (fun a r => h1 τ a q.1 r)⟩
  · rw [hf.2.2 _ h6, fcnt_tl hl]; exact h.2 k hk
theorem wT_5 {P : pS} {ad : Nat → Nat} (hS : WS P ad) {τ : Nat} (h : hk P τ 5) : ¬ wT P ad τ := by
  rintro (q | ⟨i, hi, h5, h6, e⟩)
  · exact absurd (h.2.symm.trans (hS.2.2.2.2.2.1 τ q).1.2) (by decide)
  · have q := hS.1 i hi
    rw [← e] at q
    have e2 := h.2.symm.trans q.2
    revert e2
    unfold wK
    split <;> intro e2 <;> first | exact absurd e2 (by decide)
theorem wT_162 {P : pS} {ad : Nat → Nat} (hS : WS P ad) {τ a : Nat} (h : hk P τ 5) (hr : gR P 162 τ = some a) : ¬ wT P ad a := by
  obtain ⟨h1, h2⟩ := hS.2.2.2.2.2.2 τ a h hr
  rintro (q | ⟨i, hi, h5, h6, e⟩)
  · exact h1 q
  · exact h2 i hi e
theorem wT_6 {P : pS} {ad : Nat → Nat} (hS : WS P ad) : ¬ wT P ad (ad 6) := by
  rintro (q | ⟨i, hi, h5, h6, e⟩)
  · exact (hS.2.2.2.2.2.1 _ q).2 6 (by unfold wIx; omega) rfl
  · exact h6 (hS.2.2.2.2.1 _ _ (by unfold wIx; omega) hi e).symm
theorem TX.w {P P' : pS} {ad : Nat → Nat} {nt : Nat} {σ σ' : Nat → Int32} (h : TX P ad σ nt) (hS : WS P ad) (hf : wfr ad P P') (hl : tl σ σ') : TX P' ad σ' nt := h.fr hf hl (fun τ q => wT_5 hS q) (fun τ a q r => wT_162 hS q r) (wT_6 hS)
theorem WS.f {P P' : pS} {ad : Nat → Nat} (h : WS P ad) (hf : wfr ad P P') : WS P' ad := h.sp hf.1
section VE
variable {x : pX} {d : Nat} {M : pM} {Q : Option Value → pS → Prop} {b : Nat × Nat} {pc : Nat} {ls : List (Nat × Value)} {st : List Value} {S : pS}
theorem V_gie {i a : Nat} {v : Int32} (k j f : Nat) (hd : decode (mB M) pc = .ok (.getfield i, 3)) (hw : FL M i k j) (hf : 32 * k + j = f) (ht : fint k j = true) (ho : hk S a k) (he : gI S f a = v) (kk : V x d M Q b (pc + 3) ls (.int v :: st) S) : V x d M Q b pc ls (.ref a :: st) S := V_gi k j f hd hw hf ht ho (by rw [he]; exact kk)
theorem V_iae {i v : Int32} {a N : Nat} (k : Nat) (hd : decode (mB M) pc = .ok (.iaload, 1)) (ho : hk S a 10) (hn : gN S a = N) (hN : N < 2 ^ 31) (hi : i = nI k) (hk : k < N) (he : gX S a k = v) (kk : V x d M Q b (pc + 1) ls (.int v :: st) S) : V x d M Q b pc ls (.int i :: .ref a :: st) S := V_ia k hd ho hn hN hi hk (by rw [he]; exact kk)
end VE
theorem upd_comm {σ : Nat → Int32} {i j : Nat} (h : i ≠ j) (v w : Int32) : upd (upd σ i v) j w = upd (upd σ j w) i v := by
  funext k
  by_cases h1 : k = j
  · subst h1; rw [pk_us, pk_un (Ne.symm h), pk_us]
  · rw [pk_un h1]
    by_cases h2 : k = i
    · subst h2; rw [pk_us, pk_us]
    · rw [pk_un h2, pk_un h2, pk_un h1]
