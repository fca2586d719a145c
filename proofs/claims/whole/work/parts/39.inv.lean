/-! ===== the class beside the model: cells, contents, what rests ===== -/
def cK (i : Nat) : Nat := if i = 0 then 1 else if i = 1 then 4 else if i = 4 then 11 else if i = 5 then 12 else if 10 ≤ i ∧ i < 14 then 2 else if 20 ≤ i ∧ i < 25 then 3 else if 25 ≤ i ∧ i < 30 then 6 else if 30 ≤ i ∧ i < 35 then 2 else 10
def cN (i : Nat) : Nat := if i = 2 ∨ i = 3 then 96 else if i = 4 then 4 else if i = 5 then 5 else if i = 6 then 60 else 24
abbrev cIx (i : Nat) : Prop := i < 7 ∨ (10 ≤ i ∧ i < 18) ∨ (20 ≤ i ∧ i < 40)
/-- what lies in a World's row of texts are texts -/
def WY (P : pS) (ad : Nat → Nat) : Prop := ∀ k, k < 14 → ∀ τ, gY P (ad 5) k = some τ → hk P τ 5
theorem WY.sp {P P' : pS} {ad : Nat → Nat} (h : WY P ad) (e : sp P' = sp P) : WY P' ad := fun k hk τ q => (hk_sp e).mpr (h k hk τ (by rw [← gY_sp e]; exact q))
/-- what never changes of the class: its cells, where they lie, that no two are one, nor one of the model's -/
def CS (P : pS) (c : Nat) (lv im tr ct as : Nat → Nat) : Prop :=
  hk P c 8 ∧ (∀ i, cIx i → hk P (ct i) (cK i) ∧ (10 ≤ cK i → gN P (ct i) = cN i)) ∧
  ((gR P 256 c = some (lv 0) ∧ gR P 257 c = some (im 0) ∧ gR P 258 c = some (tr 0)) ∧ (gR P 260 c = some (ct 0) ∧ gR P 261 c = some (ct 1) ∧ gR P 262 c = some (ct 4) ∧ gR P 263 c = some (ct 5) ∧ gR P 264 c = some (ct 6)) ∧ gR P 32 (ct 0) = some (ct 1) ∧ gR P 39 (ct 0) = some (ct 3) ∧ gR P 128 (ct 1) = some (ct 2)) ∧
  (∀ k, k < 4 → gY P (ct 4) k = some (ct (10 + k)) ∧ gR P 66 (ct (10 + k)) = some (ct (14 + k))) ∧
  (∀ k, k < 5 → gY P (ct 5) k = some (ct (20 + k)) ∧ gR P 98 (ct (20 + k)) = some (ct (25 + k)) ∧ gR P 99 (ct (20 + k)) = some (ct (30 + k)) ∧ gR P 66 (ct (30 + k)) = some (ct (35 + k))) ∧
  (∀ i j, cIx i → cIx j → ct i = ct j → i = j) ∧ ((WS P lv ∧ WS P im ∧ WS P tr) ∧ WY P lv ∧ WY P im ∧ WY P tr) ∧
  (∀ i j, wIx i → wIx j → lv i ≠ im j ∧ lv i ≠ tr j ∧ im i ≠ tr j) ∧ (∀ i j, wIx i → cIx j → lv i ≠ ct j ∧ im i ≠ ct j ∧ tr i ≠ ct j) ∧
  (∀ τ a, hk P τ 5 → (gR P 162 τ = some a ∨ gR P 163 τ = some a) → hk P a 10 ∧ (∀ i, cIx i → a ≠ ct i) ∧ ∀ f, f ∈ AF → a ≠ as f) ∧
  (∀ f, f ∈ AF → hk P (as f) 10 ∧ (∀ i, wIx i → lv i ≠ as f ∧ im i ≠ as f ∧ tr i ≠ as f) ∧ ∀ i, cIx i → ct i ≠ as f)
section CSS
variable {P : pS} {c : Nat} {lv im tr ct as : Nat → Nat}
theorem CS.sp {P' : pS} (h : CS P c lv im tr ct as) (e : sp P' = sp P) : CS P' c lv im tr ct as := by
  obtain ⟨h1, h2, h3, h4, h5, h6, h7, h8, h9, h10, h11⟩ := h
  unfold CS
  rw [gR_sp e, gN_sp e, gY_sp e]
  refine ⟨(hk_sp e).mpr h1, fun i hi => ⟨(hk_sp e).mpr (h2 i hi).1, (h2 i hi).2⟩, h3, h4, h5, h6, ⟨⟨h7.1.1.sp e, h7.1.2.1.sp e, h7.1.2.2.sp e⟩, h7.2.1.sp e, h7.2.2.1.sp e, h7.2.2.2.sp e⟩, h8, h9, fun τ a q r => ⟨(hk_sp e).mpr (h10 τ a ((hk_sp e).mp q) r).1, (h10 τ a ((hk_sp e).mp q) r).2⟩, fun f hf => ⟨(hk_sp e).mpr (h11 f hf).1, (h11 f hf).2⟩⟩
theorem CS.k (h : CS P c lv im tr ct as) (i : Nat) (hi : cIx i) {k : Nat} (e : cK i = k) : hk P (ct i) k := e ▸ (h.2.1 i hi).1
theorem CS.n (h : CS P c lv im tr ct as) (i : Nat) (hi : cIx i) (hk : 10 ≤ cK i) {k : Nat} (e : cN i = k) : gN P (ct i) = k := e ▸ (h.2.1 i hi).2 hk
theorem CS.wl (h : CS P c lv im tr ct as) : WS P lv := h.2.2.2.2.2.2.1.1.1
theorem CS.wi (h : CS P c lv im tr ct as) : WS P im := h.2.2.2.2.2.2.1.1.2.1
theorem CS.wt (h : CS P c lv im tr ct as) : WS P tr := h.2.2.2.2.2.2.1.1.2.2
theorem CS.yl (h : CS P c lv im tr ct as) : WY P lv := h.2.2.2.2.2.2.1.2.1
theorem CS.yi (h : CS P c lv im tr ct as) : WY P im := h.2.2.2.2.2.2.1.2.2.1
theorem CS.yt (h : CS P c lv im tr ct as) : WY P tr := h.2.2.2.2.2.2.1.2.2.2
theorem CS.rl (h : CS P c lv im tr ct as) : gR P 256 c = some (lv 0) := h.2.2.1.1.1
theorem CS.ri (h : CS P c lv im tr ct as) : gR P 257 c = some (im 0) := h.2.2.1.1.2.1
theorem CS.rt (h : CS P c lv im tr ct as) : gR P 258 c = some (tr 0) := h.2.2.1.1.2.2
theorem CS.r0 (h : CS P c lv im tr ct as) : gR P 260 c = some (ct 0) := h.2.2.1.2.1.1
theorem CS.r1 (h : CS P c lv im tr ct as) : gR P 261 c = some (ct 1) := h.2.2.1.2.1.2.1
theorem CS.r4 (h : CS P c lv im tr ct as) : gR P 262 c = some (ct 4) := h.2.2.1.2.1.2.2.1
theorem CS.r5 (h : CS P c lv im tr ct as) : gR P 263 c = some (ct 5) := h.2.2.1.2.1.2.2.2.1
theorem CS.r6 (h : CS P c lv im tr ct as) : gR P 264 c = some (ct 6) := h.2.2.1.2.1.2.2.2.2
theorem CS.rt1 (h : CS P c lv im tr ct as) : gR P 32 (ct 0) = some (ct 1) := h.2.2.1.2.2.1
theorem CS.rt3 (h : CS P c lv im tr ct as) : gR P 39 (ct 0) = some (ct 3) := h.2.2.1.2.2.2.1
theorem CS.rt2 (h : CS P c lv im tr ct as) : gR P 128 (ct 1) = some (ct 2) := h.2.2.1.2.2.2.2
theorem CS.sh (h : CS P c lv im tr ct as) {k : Nat} (hk : k < 4) : gY P (ct 4) k = some (ct (10 + k)) ∧ gR P 66 (ct (10 + k)) = some (ct (14 + k)) := h.2.2.2.1 k hk
theorem CS.sl (h : CS P c lv im tr ct as) {k : Nat} (hk : k < 5) : gY P (ct 5) k = some (ct (20 + k)) ∧ gR P 98 (ct (20 + k)) = some (ct (25 + k)) ∧ gR P 99 (ct (20 + k)) = some (ct (30 + k)) ∧ gR P 66 (ct (30 + k)) = some (ct (35 + k)) := h.2.2.2.2.1 k hk
theorem CS.inj (h : CS P c lv im tr ct as) {i j : Nat} (hi : cIx i) (hj : cIx j) (e : ct i = ct j) : i = j := h.2.2.2.2.2.1 i j hi hj e
theorem CS.ww (h : CS P c lv im tr ct as) {i j : Nat} (hi : wIx i) (hj : wIx j) : lv i ≠ im j ∧ lv i ≠ tr j ∧ im i ≠ tr j := h.2.2.2.2.2.2.2.1 i j hi hj
theorem CS.wc (h : CS P c lv im tr ct as) {i j : Nat} (hi : wIx i) (hj : cIx j) : lv i ≠ ct j ∧ im i ≠ ct j ∧ tr i ≠ ct j := h.2.2.2.2.2.2.2.2.1 i j hi hj
theorem CS.tx (h : CS P c lv im tr ct as) {τ a : Nat} (hk5 : hk P τ 5) (hr : gR P 162 τ = some a ∨ gR P 163 τ = some a) : hk P a 10 ∧ (∀ i, cIx i → a ≠ ct i) ∧ ∀ f, f ∈ AF → a ≠ as f := h.2.2.2.2.2.2.2.2.2.1 τ a hk5 hr
theorem CS.am (h : CS P c lv im tr ct as) {f : Nat} (hf : f ∈ AF) : hk P (as f) 10 ∧ (∀ i, wIx i → lv i ≠ as f ∧ im i ≠ as f ∧ tr i ≠ as f) ∧ ∀ i, cIx i → ct i ≠ as f := h.2.2.2.2.2.2.2.2.2.2 f hf
theorem CS.sk (h : CS P c lv im tr ct as) {a : Nat} (q : stk P a) : hk P a 10 ∧ (∀ i, cIx i → a ≠ ct i) ∧ ∀ f, f ∈ AF → a ≠ as f := by
  obtain ⟨τ, h1, h2⟩ := q
  exact h.tx h1 (Or.inr h2)
theorem hk_ne {a b k l : Nat} (h1 : hk P a k) (h2 : hk P b l) (h : k ≠ l) : a ≠ b := fun e => h (by rw [← h1.2, ← h2.2, e])
theorem wK_ne (i : Nat) : wK i ≠ 8 ∧ wK i ≠ 9 ∧ wK i ≠ 5 ∧ wK i ≠ 1 ∧ wK i ≠ 2 ∧ wK i ≠ 3 ∧ wK i ≠ 4 ∧ wK i ≠ 11 ∧ wK i ≠ 12 := by
  unfold wK; split <;> decide
theorem cK_ne (i : Nat) : cK i ≠ 8 ∧ cK i ≠ 9 ∧ cK i ≠ 5 ∧ cK i ≠ 7 := by
  unfold cK
  repeat (split; (· exact ⟨by decide, by decide, by decide, by decide⟩))
  exact ⟨by decide, by decide, by decide, by decide⟩
end CSS
/-- the cells of a pool live on; those of the model rest -/
def KP (m : Nat) (as : Nat → Nat) (P P' : pS) : Prop := ∀ a, a ∈ gL P → a ∈ gL P' ∧ gK P' a = gK P a ∧ gN P' a = gN P a ∧ (∀ f, gR P' f a = gR P f a) ∧ ((a = m ∨ ∃ f, f ∈ AF ∧ a = as f) → (∀ f, gI P' f a = gI P f a) ∧ gX P' a = gX P a)
theorem KP.rf {m : Nat} {as : Nat → Nat} {P : pS} : KP m as P P := fun _ h => ⟨h, rfl, rfl, fun _ => rfl, fun _ => ⟨fun _ => rfl, rfl⟩⟩
theorem KP.tr {m : Nat} {as : Nat → Nat} {P P1 P2 : pS} (h : KP m as P P1) (h2 : KP m as P1 P2) : KP m as P P2 := fun a ha => by
  obtain ⟨a1, a2, a3, a4, a5⟩ := h a ha
  obtain ⟨b1, b2, b3, b4, b5⟩ := h2 a a1
  exact ⟨b1, b2.trans a2, b3.trans a3, fun f => (b4 f).trans (a4 f), fun q => ⟨fun f => ((b5 q).1 f).trans ((a5 q).1 f), (b5 q).2.trans (a5 q).2⟩⟩
theorem KP.fr {m : Nat} {as : Nat → Nat} {P P' : pS} {T : Nat → Prop} (h : fr T P P') (h1 : ¬ T m) (h2 : ∀ f, f ∈ AF → ¬ T (as f)) : KP m as P P' := fun a ha => by
  have e1 : P'.1 = P.1 := congrArg (fun q : pT => q.1) h.1
  refine ⟨by unfold gL; rw [e1]; exact ha, by unfold gK; rw [e1], by rw [gN_sp h.1], fun f => by rw [gR_sp h.1], fun q => ?_⟩
  have hT : ¬ T a := by
    rcases q with q | ⟨f, hf, q⟩
    · rw [q]; exact h1
    · rw [q]; exact h2 f hf
  exact ⟨fun f => h.2.1 f a hT, h.2.2 a hT⟩
/-- the model's memory -/
def MR (P : pS) (m : Nat) (as : Nat → Nat) (A : Nat → Nat → Int32) (F : Nat → Int32) : Prop := (∀ f, f ∈ AF → gX P (as f) = A f) ∧ ∀ f, gI P f m = F f
theorem KP.mf {m : Nat} {as : Nat → Nat} {P P' : pS} (h : KP m as P P') (hM : MF P m as) : MF P' m as := by
  obtain ⟨h1, h2, h3⟩ := hM
  have q : ∀ a k, hk P a k → hk P' a k := fun a k w => ⟨(h a w.1).1, (h a w.1).2.1.trans w.2⟩
  exact ⟨q _ _ h1, fun f hf => ⟨((h m h1.1).2.2.2.1 f).trans (h2 f hf).1, q _ _ (h2 f hf).2.1, ((h _ (h2 f hf).2.1.1).2.2.1).trans (h2 f hf).2.2⟩, h3⟩
theorem KP.mr {m : Nat} {as : Nat → Nat} {P P' : pS} {A : Nat → Nat → Int32} {F : Nat → Int32} (h : KP m as P P') (hM : MF P m as) (hR : MR P m as A F) : MR P' m as A F :=
  ⟨fun f hf => ((h _ (hM.2.1 f hf).2.1.1).2.2.2.2 (Or.inr ⟨f, hf, rfl⟩)).2.trans (hR.1 f hf), fun f => ((h m hM.1.1).2.2.2.2 (Or.inl rfl)).1 f |>.trans (hR.2 f)⟩
theorem MR.eq {P : pS} {m : Nat} {as : Nat → Nat} {A : Nat → Nat → Int32} {F : Nat → Int32} (h : MR P m as A F) : mP P m as A F = P := by
  have e1 : gI (mP P m as A F) = gI P := by
    funext f a
    show (if a = m then F f else gI P f a) = gI P f a
    by_cases q : a = m
    · rw [if_pos q, q]; exact (h.2 f).symm
    · rw [if_neg q]
  have e2 : gX (mP P m as A F) = gX P := by
    funext a
    show (match AF.find? (fun f => as f == a) with | some f => A f | none => gX P a) = gX P a
    cases q : AF.find? (fun f => as f == a) with
    | none => rfl
    | some f =>
      have w := List.find?_some q
      have w2 := List.mem_of_find?_eq_some q
      have w3 : as f = a := by simpa using w
      show A f = gX P a
      rw [← w3]; exact (h.1 f w2).symm
  have e : mP P m as A F = (P.1, (gI (mP P m as A F), gR P), gN P, gX (mP P m as A F), gY P) := rfl
  rw [e, e1, e2]
  rfl
theorem mP_fr {P : pS} {m : Nat} {as : Nat → Nat} {A : Nat → Nat → Int32} {F : Nat → Int32} : fr (fun a => a = m ∨ ∃ f, f ∈ AF ∧ a = as f) P (mP P m as A F) := by
  refine ⟨rfl, fun f a q => ?_, fun a q => ?_⟩
  · show (if a = m then F f else gI P f a) = _
    rw [if_neg (fun w => q (Or.inl w))]
  · show (match AF.find? (fun f => as f == a) with | some f => A f | none => gX P a) = _
    cases w : AF.find? (fun f => as f == a) with
    | none => rfl
    | some f =>
      have w1 := List.find?_some w
      have w2 := List.mem_of_find?_eq_some w
      have w3 : as f = a := by simpa using w1
      exact absurd (Or.inr ⟨f, w2, w3.symm⟩) q
theorem mP_MR {P : pS} {m : Nat} {as : Nat → Nat} {A : Nat → Nat → Int32} {F : Nat → Int32} (hM : MF P m as) : MR (mP P m as A F) m as A F := ⟨fun f hf => mP_X hM hf, fun f => mP_I⟩
/-! what is alike -/
def LV (P : pS) (lv : Nat → Nat) (σ : Nat → Int32) (n nt np : Nat) : Prop := WR P lv σ ∧ TX P lv σ nt ∧ MI σ n nt np ∧ VI σ n
def IM (P : pS) (c : Nat) (im : Nat → Nat) (A : Nat → Nat → Int32) (F : Nat → Int32) : Prop := gI P 259 c = F 291 ∧ (F 291 = 0 ∨ (F 291 = 1 ∧ ∃ n nt np, ∀ τ, (∀ k, k < 2954 → τ k = A 289 k) → LV P im τ n nt np))
def SH (P : pS) (ct : Nat → Nat) (A : Nat → Nat → Int32) : Prop := SI (A 292) (A 293) ∧ ∀ k, k < 4 → gI P 64 (ct (10 + k)) = A 292 k ∧ gI P 65 (ct (10 + k)) = A 293 k ∧ ∀ j, j < 24 → gX P (ct (14 + k)) j = A 294 (24 * k + j)
def SL (P : pS) (ct : Nat → Nat) (A : Nat → Nat → Int32) : Prop := HI (A 295) (A 298) ∧ ∀ k, k < 5 → gI P 96 (ct (20 + k)) = A 295 k ∧ (A 295 k = 3 → gI P 97 (ct (20 + k)) = A 296 k) ∧ (A 295 k = 1 → (∃ q : Nat, q ≤ 5 ∧ gI P 192 (ct (25 + k)) = nI q ∧ A 296 k = nI q) ∧ fworth (gI P 192 (ct (25 + k))) (gI P 194 (ct (25 + k))) (gI P 195 (ct (25 + k))) = A 297 k) ∧ (A 295 k = 2 → gI P 65 (ct (30 + k)) = A 298 k ∧ ∀ j, j < 24 → gX P (ct (35 + k)) j = A 299 (24 * k + j))
def WQ (P : pS) (c : Nat) (ct : Nat → Nat) (A : Nat → Nat → Int32) (F : Nat → Int32) : Prop := (∃ w : Nat, w ≤ 60 ∧ F 316 = nI w) ∧ gI P 265 c = F 316 ∧ ∀ j, j < 60 → gX P (ct 6) j = A 315 j
def TP (P : pS) (ct : Nat → Nat) (A : Nat → Nat → Int32) (F : Nat → Int32) : Prop := (∃ l : Nat, l ≤ 96 ∧ F 301 = nI l) ∧ gI P 129 (ct 1) = F 301 ∧ (∀ j, j < 96 → gX P (ct 2) j = A 300 j) ∧ ∀ j, j < 96 → ∃ b : Nat, b < 256 ∧ A 300 j = nI b
def CC (P : pS) (c : Nat) (lv im ct : Nat → Nat) (A : Nat → Nat → Int32) (F : Nat → Int32) (n nt np : Nat) : Prop := LV P lv (A 288) n nt np ∧ IM P c im A F ∧ SH P ct A ∧ SL P ct A ∧ WQ P c ct A F ∧ TP P ct A F
/-- arrays and ints alike where it counts -/
def al (A A' : Nat → Nat → Int32) (F F' : Nat → Int32) : Prop := (∀ f, f ∈ [288, 289, 292, 293, 294, 295, 296, 297, 298, 299, 300, 315] → A' f = A f) ∧ F' 291 = F 291 ∧ F' 301 = F 301 ∧ F' 316 = F 316
theorem CC.al {P : pS} {c : Nat} {lv im ct : Nat → Nat} {A A' : Nat → Nat → Int32} {F F' : Nat → Int32} {n nt np : Nat} (h : CC P c lv im ct A F n nt np) (ha : al A A' F F') : CC P c lv im ct A' F' n nt np := by
  obtain ⟨h1, h2, h3, h4⟩ := ha
  unfold CC IM SH SL WQ TP at *
  rw [h1 288 (by decide), h1 289 (by decide), h1 292 (by decide), h1 293 (by decide), h1 294 (by decide), h1 295 (by decide), h1 296 (by decide), h1 297 (by decide), h1 298 (by decide), h1 299 (by decide), h1 300 (by decide), h1 315 (by decide), h2, h3, h4]
  exact h
section CCS
variable {P P' : pS} {c : Nat} {lv im tr ct as : Nat → Nat} {A : Nat → Nat → Int32} {F : Nat → Int32} {n nt np : Nat} {T : Nat → Prop}
/-- nothing of texts is touched -/
def nT (P : pS) (T : Nat → Prop) : Prop := (∀ τ, hk P τ 5 → ¬ T τ) ∧ ∀ τ a, hk P τ 5 → gR P 162 τ = some a → ¬ T a
theorem LV.fr {ad : Nat → Nat} {σ : Nat → Int32} (h : LV P ad σ n nt np) (hf : fr T P P') (hT : ∀ i, wIx i → ¬ T (ad i)) (hx : nT P T) : LV P' ad σ n nt np := ⟨h.1.fr hf hT, h.2.1.fr hf tl.rf hx.1 hx.2 (hT 6 (by decide)), h.2.2⟩
theorem IM.fr (h : IM P c im A F) (hf : fr T P P') (hc : ¬ T c) (hT : ∀ i, wIx i → ¬ T (im i)) (hx : nT P T) : IM P' c im A F := by
  refine ⟨by rw [hf.2.1 _ _ hc]; exact h.1, ?_⟩
  rcases h.2 with q | ⟨q, n, nt, np, w⟩
  · exact Or.inl q
  · exact Or.inr ⟨q, n, nt, np, fun τ e => (w τ e).fr hf hT hx⟩
theorem SH.fr (h : SH P ct A) (hf : fr T P P') (hT : ∀ i, 10 ≤ i ∧ i < 18 → ¬ T (ct i)) : SH P' ct A := by
  refine ⟨h.1, fun k hk => ?_⟩
  rw [hf.2.1 _ _ (hT (10 + k) (by omega)), hf.2.1 _ _ (hT (10 + k) (by omega)), hf.2.2 _ (hT (14 + k) (by omega))]
  exact h.2 k hk
theorem SL.fr (h : SL P ct A) (hf : fr T P P') (hT : ∀ i, 20 ≤ i ∧ i < 40 → ¬ T (ct i)) : SL P' ct A := by
  refine ⟨h.1, fun k hk => ?_⟩
  have e1 : ∀ f, gI P' f (ct (20 + k)) = gI P f (ct (20 + k)) := fun f => hf.2.1 _ _ (hT (20 + k) (by omega))
  have e2 : ∀ f, gI P' f (ct (25 + k)) = gI P f (ct (25 + k)) := fun f => hf.2.1 _ _ (hT (25 + k) (by omega))
  have e3 : ∀ f, gI P' f (ct (30 + k)) = gI P f (ct (30 + k)) := fun f => hf.2.1 _ _ (hT (30 + k) (by omega))
  rw [e1, e1, e2, e2, e2, e3, hf.2.2 _ (hT (35 + k) (by omega))]
  exact h.2 k hk
theorem WQ.fr (h : WQ P c ct A F) (hf : fr T P P') (hc : ¬ T c) (h6 : ¬ T (ct 6)) : WQ P' c ct A F := ⟨h.1, by rw [hf.2.1 _ _ hc]; exact h.2.1, by rw [hf.2.2 _ h6]; exact h.2.2⟩
theorem TP.fr (h : TP P ct A F) (hf : fr T P P') (h1 : ¬ T (ct 1)) (h2 : ¬ T (ct 2)) : TP P' ct A F := ⟨h.1, by rw [hf.2.1 _ _ h1]; exact h.2.1, by rw [hf.2.2 _ h2]; exact h.2.2.1, h.2.2.2⟩
theorem CC.fr (h : CC P c lv im ct A F n nt np) (hf : fr T P P') (hc : ¬ T c) (hl : ∀ i, wIx i → ¬ T (lv i)) (hi : ∀ i, wIx i → ¬ T (im i)) (ht : ∀ i, cIx i → ¬ T (ct i)) (hx : nT P T) : CC P' c lv im ct A F n nt np :=
  ⟨h.1.fr hf hl hx, h.2.1.fr hf hc hi hx, h.2.2.1.fr hf (fun i q => ht i (by unfold cIx; omega)), h.2.2.2.1.fr hf (fun i q => ht i (by unfold cIx; omega)), h.2.2.2.2.1.fr hf hc (ht 6 (by decide)), h.2.2.2.2.2.fr hf (ht 1 (by decide)) (ht 2 (by decide))⟩
/-- what a World's doings don't touch -/
theorem CS.nl (h : CS P c lv im tr ct as) {a : Nat} (hs : ¬ stk P a) (hw : ∀ i, wIx i → a ≠ lv i) : ¬ wT P lv a := by
  rintro (q | ⟨i, hi, -, -, e⟩)
  · exact hs q
  · exact hw i hi e
theorem CS.c_s (h : CS P c lv im tr ct as) : ¬ stk P c := fun q => absurd (h.1.2.symm.trans (h.sk q).1.2) (by decide)
theorem CS.nlc (h : CS P c lv im tr ct as) : ¬ wT P lv c := h.nl h.c_s (fun i hi e => (wK_ne i).1 ((h.wl.1 i hi).2.symm.trans (by rw [← e]; exact h.1.2)))
theorem CS.nlt (h : CS P c lv im tr ct as) (i : Nat) (hi : cIx i) : ¬ wT P lv (ct i) := h.nl (fun q => (h.sk q).2.1 i hi rfl) (fun j hj e => (h.wc hj hi).1 e.symm)
theorem CS.nli (h : CS P c lv im tr ct as) (i : Nat) (hi : wIx i) : ¬ wT P lv (im i) := h.nl (fun q => (h.wi.2.2.2.2.2.1 _ q).2 i hi rfl) (fun j hj e => (h.ww hj hi).1 e.symm)
theorem CS.nlx (h : CS P c lv im tr ct as) : nT P (wT P lv) := ⟨fun τ q => wT_5 h.wl q, fun τ a q r => wT_162 h.wl q r⟩
theorem CS.nlm (h : CS P c lv im tr ct as) {m : Nat} (hm : hk P m 9) : ¬ wT P lv m := h.nl (fun q => absurd (hm.2.symm.trans (h.sk q).1.2) (by decide)) (fun i hi e => (wK_ne i).2.1 ((h.wl.1 i hi).2.symm.trans (by rw [← e]; exact hm.2)))
theorem CS.nla (h : CS P c lv im tr ct as) {f : Nat} (hf : f ∈ AF) : ¬ wT P lv (as f) := h.nl (fun q => (h.sk q).2.2 f hf rfl) (fun i hi e => ((h.am hf).2.1 i hi).1 e.symm)
/-- after doings of the live World -/
theorem CS.live (h : CS P c lv im tr ct as) {m : Nat} (hm : hk P m 9) (hD : CC P c lv im ct A F n nt np) (hf : wfr lv P P') {σ : Nat → Int32} {n2 np2 : Nat} (hW : WR P' lv σ) (hl : tl (A 288) σ) (hI : MI σ n2 nt np2) (hV : VI σ n2) : KP m as P P' ∧ CS P' c lv im tr ct as ∧ CC P' c lv im ct (uA A σ) F n2 nt np2 := by
  refine ⟨KP.fr hf (h.nlm hm) (fun f q => h.nla q), h.sp hf.1, ?_⟩
  have q : LV P' lv σ n2 nt np2 := ⟨hW, hD.1.2.1.w h.wl hf hl, hI, hV⟩
  have r : CC P' c lv im ct A F n nt np → CC P' c lv im ct (uA A σ) F n2 nt np2 := fun w => by
    obtain ⟨-, w2, w3, w4, w5, w6⟩ := w
    refine ⟨by show LV P' lv (uA A σ 288) n2 nt np2; exact (show uA A σ 288 = σ from va_up_self _ _ _) ▸ q, ?_⟩
    unfold IM SH SL WQ TP at *
    have e : ∀ f, f ≠ 288 → uA A σ f = A f := fun f hf => va_up_ne _ _ hf
    rw [e 289 (by decide), e 292 (by decide), e 293 (by decide), e 294 (by decide), e 295 (by decide), e 296 (by decide), e 297 (by decide), e 298 (by decide), e 299 (by decide), e 300 (by decide), e 315 (by decide)]
    exact ⟨w2, w3, w4, w5, w6⟩
  -- all but the live World rests
  obtain ⟨d1, d2, d3, d4, d5, d6⟩ := hD
  have rest : IM P' c im A F ∧ SH P' ct A ∧ SL P' ct A ∧ WQ P' c ct A F ∧ TP P' ct A F := ⟨d2.fr hf h.nlc (fun i hi => h.nli i hi) h.nlx, d3.fr hf (fun i q => h.nlt i (by unfold cIx; omega)), d4.fr hf (fun i q => h.nlt i (by unfold cIx; omega)), d5.fr hf h.nlc (h.nlt 6 (by decide)), d6.fr hf (h.nlt 1 (by decide)) (h.nlt 2 (by decide))⟩
  refine ⟨by show LV P' lv (uA A σ 288) n2 nt np2; exact (show uA A σ 288 = σ from va_up_self _ _ _) ▸ q, ?_⟩
  unfold IM SH SL WQ TP at *
  have e : ∀ f, f ≠ 288 → uA A σ f = A f := fun f hf => va_up_ne _ _ hf
  rw [e 289 (by decide), e 292 (by decide), e 293 (by decide), e 294 (by decide), e 295 (by decide), e 296 (by decide), e 297 (by decide), e 298 (by decide), e 299 (by decide), e 300 (by decide), e 315 (by decide)]
  exact rest
/-- doings that leave the row as it is -/
theorem CS.calm (h : CS P c lv im tr ct as) {m : Nat} (hm : hk P m 9) (hD : CC P c lv im ct A F n nt np) (hf : wfr lv P P') (hW : WR P' lv (A 288)) : KP m as P P' ∧ CS P' c lv im tr ct as ∧ CC P' c lv im ct A F n nt np := by
  have q := h.live hm hD hf hW tl.rf hD.1.2.2.1 hD.1.2.2.2
  rw [uA_self] at q
  exact q
end CCS
theorem MI.cg {σ τ : Nat → Int32} {n nt np n2 np2 : Nat} (h : MI σ n nt np) (hl : tl σ τ) (e0 : τ 0 = nI n2) (h0 : n2 ≤ 10) (e1 : τ 1 = σ 1) (e5 : τ 5 = nI np2) (h5 : np2 ≤ 20) : MI τ n2 nt np2 := ⟨⟨e0, h0⟩, ⟨e1.trans h.2.1.1, h.2.1.2⟩, ⟨e5, h5⟩, fun t ht => by obtain ⟨many, w⟩ := h.2.2.2 t ht; exact ⟨many, wfT_tl hl w⟩⟩
theorem mk.l {σ τ : Nat → Int32} (h : mk σ τ) : tl σ τ := fun k hk => h k (by omega)
theorem int_n {v : Int32} {N : Nat} (h1 : 0 ≤ v.toInt) (h2 : v.toInt ≤ N) (hN : N < 2 ^ 29) : ∃ k : Nat, k ≤ N ∧ v = nI k := by
  obtain ⟨i, hi, e, -⟩ := idx_of (w := v) (n := N + 1) (by omega) h1 (by omega)
  exact ⟨i, by omega, e⟩
theorem VI.come {σ : Nat → Int32} {n : Nat} (h : VI σ n) (hn : n < 10) {k s : Nat} (hk : k ≤ 5) (hs : 1 ≤ s) (hs2 : s ≤ 999) : VI (sCome σ n (nI k) (nI s)) (n + 1) := by
  have e : ∀ j, j ≠ 0 → (j < 14 + 4 * n ∨ 18 + 4 * n ≤ j) → sCome σ n (nI k) (nI s) j = σ j := fun j h0 hj => by
    unfold sCome
    rw [pk_un (by omega), pk_un (by omega), pk_un (by omega), pk_un (by omega), pk_un (by omega)]
  refine ⟨fun i hi => ?_, ?_⟩
  · by_cases q : i = n
    · subst q
      unfold sCome
      refine ⟨⟨k, hk, ?_⟩, ⟨s, hs, hs2, ?_⟩, ⟨s, hs2, ?_⟩⟩
      · rw [pk_un (by omega), pk_un (by omega), pk_un (by omega), pk_us]
      · rw [pk_un (by omega), pk_un (by omega), pk_us]
      · rw [pk_un (by omega), pk_us]
    · rw [e _ (by omega) (by omega), e _ (by omega) (by omega), e _ (by omega) (by omega)]
      exact h.1 i (by omega)
  · obtain ⟨t, h1, h2⟩ := h.2
    exact ⟨t, h1, by rw [e 2 (by omega) (by omega)]; exact h2⟩
theorem sCome_tl (σ : Nat → Int32) {n : Nat} (hn : n < 10) (k s : Int32) : tl σ (sCome σ n k s) := fun j hj => by
  unfold sCome
  rw [pk_un (by omega), pk_un (by omega), pk_un (by omega), pk_un (by omega), pk_un (by omega)]
theorem MI.come {σ : Nat → Int32} {n nt np : Nat} (h : MI σ n nt np) (hn : n < 10) (k s : Int32) : MI (sCome σ n k s) (n + 1) nt np := by
  refine h.cg (sCome_tl σ hn k s) ?_ (by omega) ?_ ?_ h.2.2.1.2
  · rw [← sCome_eq, pk_us]
  · unfold sCome; rw [pk_un (by omega), pk_un (by omega), pk_un (by omega), pk_un (by omega), pk_un (by omega)]
  · unfold sCome; rw [pk_un (by omega), pk_un (by omega), pk_un (by omega), pk_un (by omega), pk_un (by omega)]; exact h.2.2.1.1
