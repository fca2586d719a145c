/-! ===== ranges: grains, losses, shot ===== -/
theorem hld_n (v : Int32) {u : Nat} (hu : u < 2 ^ 29) : ∃ m : Nat, m ≤ u ∧ hld v (nI u) = nI m := by
  unfold hld
  by_cases h1 : v < 0
  · exact ⟨0, Nat.zero_le _, by rw [if_pos h1]; rfl⟩
  · rw [if_neg h1]
    by_cases h2 : nI u < v
    · exact ⟨u, Nat.le_refl _, by rw [if_pos h2]⟩
    · rw [if_neg h2]
      have q1 : 0 ≤ v.toInt := by have := (fa_le 0 v).mp (Int32.not_lt.mp h1); simpa using this
      have q2 := (fa_le v (nI u)).mp (Int32.not_lt.mp h2)
      rw [nI_toInt (by omega)] at q2
      obtain ⟨i, hi, e, -⟩ := idx_of (w := v) (n := u + 1) (by omega) q1 (by omega)
      exact ⟨i, by omega, e⟩
theorem hld_le {m u : Nat} (hm : m < 2 ^ 31) (hu : u < 2 ^ 31) : hld (nI m) (nI u) = nI (min m u) := by
  unfold hld
  rw [if_neg (nI_pos hm)]
  by_cases h : u < m
  · rw [if_pos ((nI_ltI hu hm).mpr h), Nat.min_eq_right (by omega)]
  · rw [if_neg (fun q => h ((nI_ltI hu hm).mp q)), Nat.min_eq_left (by omega)]
theorem fkind_n (k t : Int32) {p : Nat} (hp : p ≤ 99) : ∃ m : Nat, m ≤ 200 ∧ fkind k (nI p) t = nI m := by
  unfold fkind
  by_cases h1 : k = 1
  · exact ⟨p + 1, by omega, by rw [if_pos h1]; exact nI_1 p⟩
  · rw [if_neg h1]
    have hd : nI p / 2 = nI (p / 2) := pk_div (d := 2) (by omega) (by decide) (by decide)
    by_cases h2 : k = 2
    · exact ⟨p / 2, by omega, by rw [if_pos h2, hd]⟩
    · rw [if_neg h2]
      by_cases h3 : k = 3
      · refine ⟨2 * p + 2, by omega, ?_⟩
        rw [if_pos h3]
        show nI 2 * nI p + nI 2 = _
        rw [pk_mul, nI_add]
      · rw [if_neg h3]
        by_cases h4 : k = 4
        · rw [if_pos h4]
          by_cases h5 : t - t / 2 * 2 = 0
          · exact ⟨p / 2, by omega, by rw [if_pos h5, hd]⟩
          · exact ⟨0, by omega, by rw [if_neg h5]; rfl⟩
        · rw [if_neg h4]
          by_cases h5 : k = 5
          · exact ⟨0, by omega, by rw [if_pos h5]; rfl⟩
          · exact ⟨p, by omega, by rw [if_neg h5]⟩
theorem fplain_n (σ : Nat → Int32) (nt : Nat) (g t s : Int32) : ∃ p : Nat, p ≤ 99 ∧ fplain σ nt g t s = nI p := by
  unfold fplain
  split
  · exact ⟨1, by decide, rfl⟩
  · exact hld_n _ (by decide)
/-- what a weighing costs, of a kind, a stamp, grains, times -/
noncomputable def flossK (σ : Nat → Int32) (nt : Nat) (k s g t : Int32) : Int32 := if fkind k (fplain σ nt g t s) t < g then fkind k (fplain σ nt g t s) t else g
theorem floss_K (σ : Nat → Int32) (nt w : Nat) (g t : Int32) : floss σ nt w g t = flossK σ nt (σ (14 + 4 * w + 0)) (σ (14 + 4 * w + 1)) g t := rfl
theorem flossK_n (σ : Nat → Int32) (nt : Nat) (k s t : Int32) {G : Nat} (hG : G ≤ 999) : ∃ m : Nat, m ≤ G ∧ m ≤ 200 ∧ flossK σ nt k s (nI G) t = nI m := by
  unfold flossK
  obtain ⟨p, hp, ep⟩ := fplain_n σ nt (nI G) t s
  rw [ep]
  obtain ⟨m, hm, em⟩ := fkind_n k t hp
  rw [em]
  by_cases h : nI m < nI G
  · exact ⟨m, by have := (nI_ltI (by omega) (by omega)).mp h; omega, hm, by rw [if_pos h]⟩
  · exact ⟨G, Nat.le_refl _, by have : ¬ m < G := fun q => h ((nI_ltI (by omega) (by omega)).mpr q); omega, by rw [if_neg h]⟩
theorem min_sw (a b : Int32) : (if a < b then a else b) = (if b < a then b else a) := by
  by_cases h1 : a < b
  · rw [if_pos h1, if_neg (fun h2 => Int32.lt_irrefl (Int32.lt_trans h1 h2))]
  · rw [if_neg h1]
    by_cases h2 : b < a
    · rw [if_pos h2]
    · rw [if_neg h2]; exact Int32.le_antisymm (Int32.not_lt.mp h1) (Int32.not_lt.mp h2)
/-- the fall's loss as the class works it out -/
theorem ffall_c (σ : Nat → Int32) (nt : Nat) (k s t : Int32) {G : Nat} (hG : G ≤ 999) : (if nI G < 10 * flossK σ nt k s (nI G) t then nI G else 10 * flossK σ nt k s (nI G) t) = hld (10 * flossK σ nt k s (nI G) t) (nI G) ∧ ∃ m : Nat, m ≤ G ∧ hld (10 * flossK σ nt k s (nI G) t) (nI G) = nI m := by
  obtain ⟨m, hm, hm2, em⟩ := flossK_n σ nt k s t hG
  rw [em, show (10 : Int32) = nI 10 from rfl, pk_mul]
  refine ⟨?_, min (10 * m) G, Nat.min_le_right _ _, hld_le (by omega) (by omega)⟩
  unfold hld
  rw [if_neg (nI_pos (by omega))]
theorem ftook_c (g k : Int32) : (if 999 - g < k then 999 - g else k) = ftook g k := by unfold ftook; exact min_sw _ _
theorem ftook_n {G K : Nat} (hG : G ≤ 999) (hK : K < 2 ^ 30) : ftook (nI G) (nI K) = nI (min K (999 - G)) := by
  unfold ftook
  have e : (999 : Int32) - nI G = nI (999 - G) := nI_sub (a := 999) hG
  rw [e]
  by_cases h : K < 999 - G
  · rw [if_pos ((nI_ltI (by omega) (by omega)).mpr h), Nat.min_eq_left (by omega)]
  · rw [if_neg (fun q => h ((nI_ltI (by omega) (by omega)).mp q)), Nat.min_eq_right (by omega)]
theorem shot_c {s t : Nat} (hs : s ≤ 99999) (ht : t ≤ 999) : (if nI s + nI t < 99999 then nI s + nI t else 99999) = hld (nI s + nI t) 99999 ∧ ∃ m : Nat, m ≤ 99999 ∧ hld (nI s + nI t) 99999 = nI m := by
  rw [nI_add]
  refine ⟨?_, min (s + t) 99999, Nat.min_le_right _ _, hld_le (u := 99999) (by omega) (by decide)⟩
  unfold hld
  rw [if_neg (nI_pos (by omega)), min_sw]
/-- a row in order: weights, shot -/
def VI (σ : Nat → Int32) (n : Nat) : Prop := WI σ n ∧ ∃ s : Nat, s ≤ 99999 ∧ σ 2 = nI s
theorem WI.up {σ : Nat → Int32} {n : Nat} (h : WI σ n) (hn : n ≤ 10) {k : Nat} (v : Int32) (hk : k < 14 ∨ 54 ≤ k ∨ k % 4 = 1) : WI (upd σ k v) n := by
  intro i hi
  rw [pk_un (by omega), pk_un (by omega), pk_un (by omega)]; exact h i hi
theorem WI.g2 {σ : Nat → Int32} {n : Nat} (h : WI σ n) (hn : n ≤ 10) {w G : Nat} (hw : w < 10) (hG : G ≤ 999) : WI (upd σ (14 + 4 * w + 2) (nI G)) n := by
  intro i hi
  rw [pk_un (by omega), pk_un (by omega)]
  refine ⟨(h i hi).1, (h i hi).2.1, ?_⟩
  by_cases q : i = w
  · subst q; exact ⟨G, hG, pk_us⟩
  · rw [pk_un (by omega)]; exact (h i hi).2.2
