/-! ===== texts on a tape: words, numbers, signs; steps ===== -/
abbrev inR (tp : Nat → Int32) (lo hi : Int) (p : Nat) : Prop := lo ≤ (tp p).toInt ∧ (tp p).toInt ≤ hi
/-- the first place from one on whose byte isn't within two -/
def eor (tp : Nat → Int32) (lo hi : Int) : Nat → Nat → Nat
  | 0, p => p
  | c + 1, p => if inR tp lo hi p then eor tp lo hi c (p + 1) else p
theorem eor_ge (tp : Nat → Int32) (lo hi : Int) : ∀ c p, p ≤ eor tp lo hi c p
  | 0, p => Nat.le_refl _
  | c + 1, p => by
    unfold eor; split
    · exact Nat.le_trans (Nat.le_succ p) (eor_ge tp lo hi c (p + 1))
    · exact Nat.le_refl _
theorem eor_le (tp : Nat → Int32) (lo hi : Int) : ∀ c p, eor tp lo hi c p ≤ p + c
  | 0, p => Nat.le_refl _
  | c + 1, p => by
    unfold eor; split
    · have := eor_le tp lo hi c (p + 1); omega
    · omega
/-- what is ahead: where it begins, where it ends, its sort: 0 the end, 1 a word, 2 a number, 3 a sign, 4 wrong -/
abbrev tk : Type := Nat × Nat × Nat
def nxt (tp : Nat → Int32) (L e t : Nat) : tk :=
  if eor tp 32 32 (L - e) e = L then (L, L, 0)
  else if inR tp 97 122 (eor tp 32 32 (L - e) e) then (eor tp 32 32 (L - e) e, eor tp 97 122 (L - eor tp 32 32 (L - e) e) (eor tp 32 32 (L - e) e), if (t = 1 ∨ t = 2) ∧ eor tp 32 32 (L - e) e = e then 4 else 1)
  else if inR tp 48 57 (eor tp 32 32 (L - e) e) then (eor tp 32 32 (L - e) e, eor tp 48 57 (L - eor tp 32 32 (L - e) e) (eor tp 32 32 (L - e) e), if ((t = 1 ∨ t = 2) ∧ eor tp 32 32 (L - e) e = e) ∨ 4 < eor tp 48 57 (L - eor tp 32 32 (L - e) e) (eor tp 32 32 (L - e) e) - eor tp 32 32 (L - e) e then 4 else 2)
  else (eor tp 32 32 (L - e) e, eor tp 32 32 (L - e) e + 1, 3)
/-- in order -/
def tko (L : Nat) (s : tk) : Prop := s.2.1 ≤ L ∧ s.1 ≤ s.2.1 ∧ (s.2.2 = 0 ∨ s.1 < s.2.1) ∧ s.2.2 ≤ 4
theorem eor_pos {tp : Nat → Int32} {lo hi : Int} {c p : Nat} (hc : 0 < c) (h : inR tp lo hi p) : p < eor tp lo hi c p := by
  obtain ⟨c, rfl⟩ := Nat.exists_eq_succ_of_ne_zero (Nat.pos_iff_ne_zero.mp hc)
  show p < (if inR tp lo hi p then eor tp lo hi c (p + 1) else p)
  rw [if_pos h]
  exact eor_ge tp lo hi c (p + 1)
theorem nxt_ok (tp : Nat → Int32) {L e : Nat} (t : Nat) (he : e ≤ L) : tko L (nxt tp L e t) ∧ e ≤ (nxt tp L e t).1 := by
  have h1 := eor_ge tp 32 32 (L - e) e
  have h2 := eor_le tp 32 32 (L - e) e
  unfold nxt
  generalize eor tp 32 32 (L - e) e = p at *
  by_cases hp : p = L
  · rw [if_pos hp]
    exact ⟨⟨Nat.le_refl _, Nat.le_refl _, Or.inl rfl, Nat.zero_le _⟩, he⟩
  · rw [if_neg hp]
    by_cases h3 : inR tp 97 122 p
    · rw [if_pos h3]
      have h4 := eor_pos (c := L - p) (by omega) h3
      have h5 := eor_le tp 97 122 (L - p) p
      refine ⟨⟨by dsimp only; omega, by dsimp only; omega, Or.inr h4, ?_⟩, by dsimp only; omega⟩
      dsimp only; split <;> omega
    · rw [if_neg h3]
      by_cases h3 : inR tp 48 57 p
      · rw [if_pos h3]
        have h4 := eor_pos (c := L - p) (by omega) h3
        have h5 := eor_le tp 48 57 (L - p) p
        refine ⟨⟨by dsimp only; omega, by dsimp only; omega, Or.inr h4, ?_⟩, by dsimp only; omega⟩
        dsimp only; split <;> omega
      · rw [if_neg h3]
        exact ⟨⟨by dsimp only; omega, by dsimp only; omega, Or.inr (by dsimp only; omega), by dsimp only; omega⟩, by dsimp only; omega⟩
/-- the value of k digits -/
def dgt (tp : Nat → Int32) (p : Nat) : Nat → Int32
  | 0 => 0
  | k + 1 => 10 * dgt tp p k + tp (p + k) - 48
def lvOf (c : Int32) : Nat := if c = 124 then 0 else if c = 38 then 1 else if c = 60 ∨ c = 61 ∨ c = 62 then 2 else if c = 43 ∨ c = 45 then 3 else if c = 42 ∨ c = 47 then 4 else 5
abbrev isNm (key c : Int32) : Prop := (key = 0 ∧ (c = 103 ∨ c = 116 ∨ c = 115)) ∨ (key = 1 ∧ (c = 115 ∨ c = 100)) ∨ (¬ key = 0 ∧ ¬ key = 1 ∧ (c = 108 ∨ c = 116))
abbrev sps : Type := List (Int32 × Int32)
abbrev rdR : Type := Bool × tk × sps
section PP
variable (tp : Nat → Int32) (L : Nat) (key : Int32)
def nxs (s : tk) : tk := nxt tp L s.2.1 s.2.2
/-- reading: levels 0 .. 4, a piece 5, the signs of a level 6 .. 10; b brackets, n nots are open -/
def rdP : Nat → Nat → Nat → Nat → tk → sps → rdR
  | 0, _, _, _, s, o => (false, s, o)
  | f + 1, md, b, n, s, o =>
    if md < 5 then (if (rdP f (md + 1) b n s o).1 = true then rdP f (md + 6) b n (rdP f (md + 1) b n s o).2.1 (rdP f (md + 1) b n s o).2.2 else rdP f (md + 1) b n s o)
    else if md = 5 then
      (if s.2.2 = 2 then (true, nxs tp L s, o ++ [(0, dgt tp s.1 (s.2.1 - s.1))])
      else if s.2.2 = 1 ∧ s.2.1 - s.1 = 1 ∧ isNm key (tp s.1) then (true, nxs tp L s, o ++ [(1, tp s.1)])
      else if s.2.2 = 3 ∧ tp s.1 = 33 ∧ n < 8 then (if (rdP f 5 b (n + 1) (nxs tp L s) o).1 = true then (true, (rdP f 5 b (n + 1) (nxs tp L s) o).2.1, (rdP f 5 b (n + 1) (nxs tp L s) o).2.2 ++ [(2, 33)]) else rdP f 5 b (n + 1) (nxs tp L s) o)
      else if s.2.2 = 3 ∧ tp s.1 = 40 ∧ b < 8 then (if (rdP f 0 (b + 1) n (nxs tp L s) o).1 = true then (if (rdP f 0 (b + 1) n (nxs tp L s) o).2.1.2.2 = 3 ∧ tp (rdP f 0 (b + 1) n (nxs tp L s) o).2.1.1 = 41 then (true, nxs tp L (rdP f 0 (b + 1) n (nxs tp L s) o).2.1, (rdP f 0 (b + 1) n (nxs tp L s) o).2.2) else (false, (rdP f 0 (b + 1) n (nxs tp L s) o).2)) else rdP f 0 (b + 1) n (nxs tp L s) o)
      else (false, s, o))
    else (if s.2.2 = 3 ∧ lvOf (tp s.1) = md - 6 then (if (rdP f (md - 5) b n (nxs tp L s) o).1 = true then (if md = 8 then (true, (rdP f (md - 5) b n (nxs tp L s) o).2.1, (rdP f (md - 5) b n (nxs tp L s) o).2.2 ++ [(2, tp s.1)]) else rdP f md b n (rdP f (md - 5) b n (nxs tp L s) o).2.1 ((rdP f (md - 5) b n (nxs tp L s) o).2.2 ++ [(2, tp s.1)])) else rdP f (md - 5) b n (nxs tp L s) o)
      else (true, s, o))
end PP
theorem nxs_ok (tp : Nat → Int32) {L : Nat} {s : tk} (h : tko L s) : tko L (nxs tp L s) ∧ s.2.1 ≤ (nxs tp L s).1 := nxt_ok tp s.2.2 h.1
/-- how far reading comes, how many steps it laid -/
theorem rdP_ok (tp : Nat → Int32) (L : Nat) (key : Int32) : ∀ f md b n (s : tk) (o : sps), tko L s → tko L (rdP tp L key f md b n s o).2.1 ∧ s.1 ≤ (rdP tp L key f md b n s o).2.1.1 ∧ (rdP tp L key f md b n s o).2.2.length + s.1 ≤ o.length + (rdP tp L key f md b n s o).2.1.1
  | 0, md, b, n, s, o, h => ⟨h, Nat.le_refl _, Nat.le_refl _⟩
  | f + 1, md, b, n, s, o, h => by
    have hn := nxs_ok tp h
    have i0 := h.2.1
    unfold rdP
    by_cases h1 : md < 5
    · rw [if_pos h1]
      have i1 := rdP_ok tp L key f (md + 1) b n s o h
      split
      · have i2 := rdP_ok tp L key f (md + 6) b n _ (rdP tp L key f (md + 1) b n s o).2.2 i1.1
        exact ⟨i2.1, by omega, by omega⟩
      · exact i1
    · rw [if_neg h1]
      by_cases h2 : md = 5
      · rw [if_pos h2]
        by_cases c1 : s.2.2 = 2
        · rw [if_pos c1]
          have := h.2.2.1
          refine ⟨hn.1, by dsimp only; omega, ?_⟩
          dsimp only; rw [List.length_append]; show _ + 1 + _ ≤ _; omega
        · rw [if_neg c1]
          by_cases c2 : s.2.2 = 1 ∧ s.2.1 - s.1 = 1 ∧ isNm key (tp s.1)
          · rw [if_pos c2]
            refine ⟨hn.1, by dsimp only; omega, ?_⟩
            dsimp only; rw [List.length_append]; show _ + 1 + _ ≤ _; omega
          · rw [if_neg c2]
            by_cases c3 : s.2.2 = 3 ∧ tp s.1 = 33 ∧ n < 8
            · rw [if_pos c3]
              have i1 := rdP_ok tp L key f 5 b (n + 1) (nxs tp L s) o hn.1
              have := h.2.2.1
              split
              · refine ⟨i1.1, by dsimp only; omega, ?_⟩
                dsimp only; rw [List.length_append]; show _ + 1 + _ ≤ _; omega
              · exact ⟨i1.1, by omega, by omega⟩
            · rw [if_neg c3]
              by_cases c4 : s.2.2 = 3 ∧ tp s.1 = 40 ∧ b < 8
              · rw [if_pos c4]
                have i1 := rdP_ok tp L key f 0 (b + 1) n (nxs tp L s) o hn.1
                have i2 := nxs_ok tp i1.1
                have i3 := i1.1.2.1
                split
                · split
                  · exact ⟨i2.1, by dsimp only; omega, by dsimp only; omega⟩
                  · exact ⟨i1.1, by dsimp only; omega, by dsimp only; omega⟩
                · exact ⟨i1.1, by omega, by omega⟩
              · rw [if_neg c4]
                exact ⟨h, Nat.le_refl _, Nat.le_refl _⟩
      · rw [if_neg h2]
        by_cases c1 : s.2.2 = 3 ∧ lvOf (tp s.1) = md - 6
        · rw [if_pos c1]
          have i1 := rdP_ok tp L key f (md - 5) b n (nxs tp L s) o hn.1
          have := h.2.2.1
          split
          · split
            · refine ⟨i1.1, by dsimp only; omega, ?_⟩
              dsimp only; rw [List.length_append]; show _ + 1 + _ ≤ _; omega
            · have i2 := rdP_ok tp L key f md b n _ ((rdP tp L key f (md - 5) b n (nxs tp L s) o).2.2 ++ [(2, tp s.1)]) i1.1
              rw [List.length_append] at i2
              have i3 := i2.2.2
              simp only [List.length_cons, List.length_nil] at i3
              exact ⟨i2.1, by omega, by omega⟩
          · exact ⟨i1.1, by omega, by omega⟩
        · rw [if_neg c1]
          exact ⟨h, Nat.le_refl _, Nat.le_refl _⟩
/-- the fuel that is needed -/
def fuN (md L : Nat) (s : tk) : Nat := 7 * (L - s.1) + (if md ≤ 5 then 7 - md else 1)
