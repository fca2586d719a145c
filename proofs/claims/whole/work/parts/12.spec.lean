/-! ===== what the numbers are: functions of the model's row s ===== -/
theorem V_lp {x : pX} {d : Nat} {M : pM} {Q : Option Value → pS → Prop} {b : Nat × Nat} {pc : Nat} {ls ls' : List (Nat × Value)} {st : List Value} {S : pS} (ks : List Nat) (h : lv_pick ls ks = ls') (k : V x d M Q b pc ls' st S) : V x d M Q b pc ls st S := by
  refine V_lw (fun q hq => ?_) k
  rw [← h] at hq
  obtain ⟨k, -, hk⟩ := List.mem_filterMap.mp hq
  exact List.mem_of_getElem? hk
/-- a bit of a set -/
def sb (set : Int32) (k : Nat) : Int32 := (set >>> (nI k &&& 31)) &&& 1
def fsum (σ : Nat → Int32) (set : Int32) (j : Nat) : Nat → Int32
  | 0 => 0
  | k + 1 => fsum σ set j k + (if sb set k = 1 then σ (14 + 4 * k + j) else 0)
/-- the text told last for a key, of the first so many -/
def fcnt (σ : Nat → Int32) (key : Int32) : Nat → Int32
  | 0 => -1
  | t + 1 => if σ (154 + 200 * t) = key then nI t else fcnt σ key t
def jn (c x y : Int32) : Int32 :=
  if c = 43 then x + y else if c = 45 then x - y else if c = 42 then x * y else if c = 47 then (if y = 0 then 0 else if y = -1 then -x else x / y) else if c = 60 then (if x < y then 1 else 0) else if c = 62 then (if y < x then 1 else 0) else if c = 61 then (if x = y then 1 else 0) else if c = 38 then (if ¬ x = 0 ∧ ¬ y = 0 then 1 else 0) else (if ¬ x = 0 ∨ ¬ y = 0 then 1 else 0)
/-- the steps of a text on a pile: the pile and its height -/
def wst (σ : Nat → Int32) (t : Nat) (nm : Nat → Int32) (p0 : Nat → Int32) : Nat → (Nat → Int32) × Nat
  | 0 => (p0, 0)
  | k + 1 => if ¬ σ (158 + 200 * t + 2 * k) = 2 then (upd (wst σ t nm p0 k).1 (wst σ t nm p0 k).2 (if σ (158 + 200 * t + 2 * k) = 0 then σ (159 + 200 * t + 2 * k) else nm (σ (159 + 200 * t + 2 * k)).toNatClampNeg), (wst σ t nm p0 k).2 + 1)
      else if σ (159 + 200 * t + 2 * k) = 33 then (upd (wst σ t nm p0 k).1 ((wst σ t nm p0 k).2 - 1) (if (wst σ t nm p0 k).1 ((wst σ t nm p0 k).2 - 1) = 0 then 1 else 0), (wst σ t nm p0 k).2)
      else (upd (wst σ t nm p0 k).1 ((wst σ t nm p0 k).2 - 2) (jn (σ (159 + 200 * t + 2 * k)) ((wst σ t nm p0 k).1 ((wst σ t nm p0 k).2 - 2)) ((wst σ t nm p0 k).1 ((wst σ t nm p0 k).2 - 1))), (wst σ t nm p0 k).2 - 1)
/-- the height alone -/
def hgt (σ : Nat → Int32) (t : Nat) : Nat → Nat
  | 0 => 0
  | k + 1 => if ¬ σ (158 + 200 * t + 2 * k) = 2 then hgt σ t k + 1 else if σ (159 + 200 * t + 2 * k) = 33 then hgt σ t k else hgt σ t k - 1
theorem wst_hgt (σ : Nat → Int32) (t : Nat) (nm p0 : Nat → Int32) : ∀ k, (wst σ t nm p0 k).2 = hgt σ t k
  | 0 => rfl
  | k + 1 => by
    unfold wst hgt
    have ih := wst_hgt σ t nm p0 k
    split
    · show _ + 1 = _; rw [ih]
    · split
      · exact ih
      · show _ - 1 = _; rw [ih]
/-- a text whose steps can be worked out, with the names of its key alone -/
def okN (key : Int32) (c : Nat) : Prop := (key = 0 ∧ (c = 103 ∨ c = 116 ∨ c = 115)) ∨ (key = 1 ∧ (c = 115 ∨ c = 100)) ∨ (key = 2 ∧ (c = 108 ∨ c = 116))
def wfT (σ : Nat → Int32) (t many : Nat) : Prop := σ (156 + 200 * t) = nI many ∧ 0 < many ∧ many ≤ 98 ∧ (∀ k, k < many → hgt σ t k < 99 ∧ ((σ (158 + 200 * t + 2 * k) = 0) ∨ (σ (158 + 200 * t + 2 * k) = 1 ∧ ∃ c : Nat, σ (159 + 200 * t + 2 * k) = nI c ∧ okN (σ (154 + 200 * t)) c) ∨ (σ (158 + 200 * t + 2 * k) = 2 ∧ ((σ (159 + 200 * t + 2 * k) = 33 ∧ 1 ≤ hgt σ t k) ∨ (¬ σ (159 + 200 * t + 2 * k) = 33 ∧ 2 ≤ hgt σ t k))))) ∧ hgt σ t many = 1
theorem okN_lt {key : Int32} {c : Nat} (h : okN key c) : c < 128 := by
  unfold okN at h
  omega
/-- what a text gives: of its names only those of its key count -/
def wkd (σ : Nat → Int32) (t many : Nat) (nm : Nat → Int32) : Int32 := (wst σ t nm (fun _ => 0) many).1 0
section WST
variable {σ : Nat → Int32} {t k : Nat} {nm p0 : Nat → Int32}
theorem wst_s0 (h : σ (158 + 200 * t + 2 * k) = 0) : wst σ t nm p0 (k + 1) = (upd (wst σ t nm p0 k).1 (hgt σ t k) (σ (159 + 200 * t + 2 * k)), hgt σ t k + 1) := by
  rw [← wst_hgt σ t nm p0 k]
  show (if ¬ σ (158 + 200 * t + 2 * k) = 2 then _ else _) = _
  rw [if_pos (by rw [h]; decide), if_pos h]
theorem wst_s1 (h : σ (158 + 200 * t + 2 * k) = 1) : wst σ t nm p0 (k + 1) = (upd (wst σ t nm p0 k).1 (hgt σ t k) (nm (σ (159 + 200 * t + 2 * k)).toNatClampNeg), hgt σ t k + 1) := by
  rw [← wst_hgt σ t nm p0 k]
  show (if ¬ σ (158 + 200 * t + 2 * k) = 2 then _ else _) = _
  rw [if_pos (by rw [h]; decide)]
  have h0 : ¬ σ (158 + 200 * t + 2 * k) = 0 := by rw [h]; decide
  rw [if_neg h0]
theorem wst_s2 (h : σ (158 + 200 * t + 2 * k) = 2) (h3 : σ (159 + 200 * t + 2 * k) = 33) : wst σ t nm p0 (k + 1) = (upd (wst σ t nm p0 k).1 (hgt σ t k - 1) (if (wst σ t nm p0 k).1 (hgt σ t k - 1) = 0 then 1 else 0), hgt σ t k) := by
  rw [← wst_hgt σ t nm p0 k]
  show (if ¬ σ (158 + 200 * t + 2 * k) = 2 then _ else _) = _
  rw [if_neg (by rw [h]; decide), if_pos h3]
theorem wst_s3 (h : σ (158 + 200 * t + 2 * k) = 2) (h3 : ¬ σ (159 + 200 * t + 2 * k) = 33) : wst σ t nm p0 (k + 1) = (upd (wst σ t nm p0 k).1 (hgt σ t k - 2) (jn (σ (159 + 200 * t + 2 * k)) ((wst σ t nm p0 k).1 (hgt σ t k - 2)) ((wst σ t nm p0 k).1 (hgt σ t k - 1))), hgt σ t k - 1) := by
  rw [← wst_hgt σ t nm p0 k]
  show (if ¬ σ (158 + 200 * t + 2 * k) = 2 then _ else _) = _
  rw [if_neg (by rw [h]; decide), if_neg h3]
theorem hgt_p (h : ¬ σ (158 + 200 * t + 2 * k) = 2) : hgt σ t (k + 1) = hgt σ t k + 1 := by
  show (if ¬ σ (158 + 200 * t + 2 * k) = 2 then _ else _) = _
  rw [if_pos h]
theorem hgt_2 (h : σ (158 + 200 * t + 2 * k) = 2) (h3 : σ (159 + 200 * t + 2 * k) = 33) : hgt σ t (k + 1) = hgt σ t k := by
  show (if ¬ σ (158 + 200 * t + 2 * k) = 2 then _ else _) = _
  rw [if_neg (by rw [h]; decide), if_pos h3]
theorem hgt_3 (h : σ (158 + 200 * t + 2 * k) = 2) (h3 : ¬ σ (159 + 200 * t + 2 * k) = 33) : hgt σ t (k + 1) = hgt σ t k - 1 := by
  show (if ¬ σ (158 + 200 * t + 2 * k) = 2 then _ else _) = _
  rw [if_neg (by rw [h]; decide), if_neg h3]
end WST
theorem wst_same {σ : Nat → Int32} {t many : Nat} (hw : wfT σ t many) {nm nm' p0 p1 : Nat → Int32} (hn : ∀ c, okN (σ (154 + 200 * t)) c → nm c = nm' c) : ∀ k, k ≤ many → ∀ j, j < hgt σ t k → (wst σ t nm p0 k).1 j = (wst σ t nm' p1 k).1 j
  | 0, _, j, hj => absurd hj (Nat.not_lt_zero j)
  | k + 1, hk, j, hj => by
    have ih := wst_same hw hn (p0 := p0) (p1 := p1) k (by omega)
    obtain ⟨h99, hc⟩ := hw.2.2.2.1 k (by omega)
    rcases hc with h | ⟨h, c, hc, hok⟩ | ⟨h, hc⟩
    · rw [hgt_p (by rw [h]; decide)] at hj
      rw [wst_s0 h, wst_s0 h]
      show upd _ _ _ j = upd _ _ _ j
      by_cases hj2 : j = hgt σ t k
      · subst hj2; rw [pk_us, pk_us]
      · rw [pk_un hj2, pk_un hj2]; exact ih j (by omega)
    · rw [hgt_p (by rw [h]; decide)] at hj
      rw [wst_s1 h, wst_s1 h]
      show upd _ _ _ j = upd _ _ _ j
      by_cases hj2 : j = hgt σ t k
      · subst hj2; rw [pk_us, pk_us, hc, nI_clamp (by have := okN_lt hok; omega)]; exact hn c hok
      · rw [pk_un hj2, pk_un hj2]; exact ih j (by omega)
    · rcases hc with ⟨h33, hh⟩ | ⟨h33, hh⟩
      · rw [hgt_2 h h33] at hj
        rw [wst_s2 h h33, wst_s2 h h33]
        show upd _ _ _ j = upd _ _ _ j
        by_cases hj2 : j = hgt σ t k - 1
        · subst hj2; rw [pk_us, pk_us, ih _ hj]
        · rw [pk_un hj2, pk_un hj2]; exact ih j (by omega)
      · rw [hgt_3 h h33] at hj
        rw [wst_s3 h h33, wst_s3 h h33]
        show upd _ _ _ j = upd _ _ _ j
        by_cases hj2 : j = hgt σ t k - 2
        · subst hj2; rw [pk_us, pk_us, ih _ (by omega), ih _ (by omega)]
        · rw [pk_un hj2, pk_un hj2]; exact ih j (by omega)
theorem wkd_eq {σ : Nat → Int32} {t many : Nat} (hw : wfT σ t many) {nm nm' p0 : Nat → Int32} (hn : ∀ c, okN (σ (154 + 200 * t)) c → nm c = nm' c) : (wst σ t nm p0 many).1 0 = wkd σ t many nm' := wst_same hw hn many (Nat.le_refl _) 0 (by rw [hw.2.2.2.2]; decide)
/-- the row s is in order: n weights, nt texts, np pages -/
def MI (σ : Nat → Int32) (n nt np : Nat) : Prop := (σ 0 = nI n ∧ n ≤ 10) ∧ (σ 1 = nI nt ∧ nt ≤ 14) ∧ (σ 5 = nI np ∧ np ≤ 20) ∧ ∀ t, t < nt → ∃ many, wfT σ t many
/-- arrays alike but for the two scratch ones -/
def sc (A A' : Nat → Nat → Int32) : Prop := ∀ f, f ≠ 312 → f ≠ 313 → A' f = A f
theorem sc.rf {A : Nat → Nat → Int32} : sc A A := fun _ _ _ => rfl
theorem sc.tr {A B C : Nat → Nat → Int32} (h1 : sc A B) (h2 : sc B C) : sc A C := fun f a b => (h2 f a b).trans (h1 f a b)
theorem sc.up {A B : Nat → Nat → Int32} (h : sc A B) {f : Nat} (hf : f = 312 ∨ f = 313) (r : Nat → Int32) : sc A (va_up B f r) := fun g a b => by
  rw [va_up_ne _ _ (by omega)]; exact h g a b
def fworth (k g t : Int32) : Int32 := if k = 1 then g - 2 else if k = 2 then 2 * g else if k = 3 then g - 2 - t else if k = 4 then 2 * g + 100 else if k = 5 then 7 else g
/-- what a kind makes of a plain loss -/
def fkind (k p t : Int32) : Int32 := if k = 1 then p + 1 else if k = 2 then p / 2 else if k = 3 then 2 * p + 2 else if k = 4 then (if t - t / 2 * 2 = 0 then p / 2 else 0) else if k = 5 then 0 else p
def nmW (g t s : Int32) : Nat → Int32 := fun c => if c = 103 then g else if c = 116 then t else s
/-- the plain loss by the text that counts -/
noncomputable def fplain (σ : Nat → Int32) (nt : Nat) (g t s : Int32) : Int32 :=
  if fcnt σ 0 nt < 0 then 1 else hld (wkd σ (fcnt σ 0 nt).toNatClampNeg (σ (156 + 200 * (fcnt σ 0 nt).toNatClampNeg)).toNatClampNeg (nmW g t s)) 99
noncomputable def floss (σ : Nat → Int32) (nt w : Nat) (g t : Int32) : Int32 :=
  if fkind (σ (14 + 4 * w + 0)) (fplain σ nt g t (σ (14 + 4 * w + 1))) t < g then fkind (σ (14 + 4 * w + 0)) (fplain σ nt g t (σ (14 + 4 * w + 1))) t else g
theorem fcnt_cases (σ : Nat → Int32) (key : Int32) : ∀ nt, nt < 2 ^ 31 → fcnt σ key nt = -1 ∨ ∃ t, t < nt ∧ fcnt σ key nt = nI t ∧ σ (154 + 200 * t) = key
  | 0, _ => Or.inl rfl
  | nt + 1, h => by
    unfold fcnt
    by_cases h1 : σ (154 + 200 * nt) = key
    · rw [if_pos h1]; exact Or.inr ⟨nt, by omega, rfl, h1⟩
    · rw [if_neg h1]
      rcases fcnt_cases σ key nt (by omega) with h2 | ⟨t, h2, h3⟩
      · exact Or.inl h2
      · exact Or.inr ⟨t, by omega, h3⟩
