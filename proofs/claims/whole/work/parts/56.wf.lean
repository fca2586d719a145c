/-! ===== what is read can be worked out ===== -/
def hSt (h : Nat) (y : Int32 × Int32) : Nat := if ¬ y.1 = 2 then h + 1 else if y.2 = 33 then h else h - 1
def hL (o : sps) : Nat := o.foldl hSt 0
theorem hL_s (o : sps) (y : Int32 × Int32) : hL (o ++ [y]) = hSt (hL o) y := by unfold hL; rw [List.foldl_append]; rfl
theorem cntN_s (o : sps) (y : Int32 × Int32) : cntN (o ++ [y]) = cntN o + (if ¬ y.1 = 2 then 1 else 0) := by
  unfold cntN
  rw [List.countP_append]
  congr 1
  by_cases h : y.1 = 2
  · rw [if_neg (fun q => q h)]
    show List.countP _ [y] = 0
    simp [h]
  · rw [if_pos h]
    show List.countP _ [y] = 1
    simp [h]
def okS (key : Int32) (h : Nat) (y : Int32 × Int32) : Prop := (y.1 = 0 ∧ ∃ v : Nat, v < 10000 ∧ y.2 = nI v) ∨ (y.1 = 1 ∧ ∃ c : Nat, y.2 = nI c ∧ okN key c) ∨ (y.1 = 2 ∧ ((y.2 = 33 ∧ 1 ≤ h) ∨ (¬ y.2 = 33 ∧ lvOf y.2 < 5 ∧ 2 ≤ h)))
def wfO (key : Int32) (o : sps) : Prop := (∀ k, k < o.length → okS key (hL (o.take k)) (o.getD k (0, 0))) ∧ ∀ k, k ≤ o.length → hL (o.take k) ≤ cntN (o.take k)
theorem wfO.nil (key : Int32) : wfO key [] := ⟨fun k hk => absurd hk (Nat.not_lt_zero k), fun k hk => by rw [Nat.le_zero.mp hk]; exact Nat.le_refl _⟩
theorem wfO.le {key : Int32} {o : sps} (h : wfO key o) : hL o ≤ cntN o := by
  have q := h.2 o.length (Nat.le_refl _)
  rw [List.take_length] at q
  exact q
theorem wfO.s {key : Int32} {o : sps} (h : wfO key o) {y : Int32 × Int32} (hy : okS key (hL o) y) : wfO key (o ++ [y]) := by
  refine ⟨fun k hk => ?_, fun k hk => ?_⟩
  · rcases gD_a o y hk with ⟨q1, q2⟩ | ⟨q1, q2⟩
    · rw [q2, List.take_append_of_le_length (by omega)]; exact h.1 k q1
    · subst q1; rw [q2, List.take_append_of_le_length (Nat.le_refl _), List.take_length]; exact hy
  · rw [List.length_append] at hk
    simp only [List.length_cons, List.length_nil] at hk
    rcases (show k ≤ o.length ∨ k = o.length + 1 by omega) with q | q
    · rw [List.take_append_of_le_length q]; exact h.2 k q
    · rw [List.take_of_length_le (by rw [List.length_append]; simp only [List.length_cons, List.length_nil]; omega), hL_s, cntN_s]
      have w := h.le
      unfold hSt
      split
      · omega
      · split <;> omega
theorem hSt_p {h : Nat} {y : Int32 × Int32} (e : ¬ y.1 = 2) : hSt h y = h + 1 := if_pos e
theorem hSt_n {h : Nat} {v : Int32} (e : v = 33) : hSt h (2, v) = h := by unfold hSt; rw [if_neg (fun q => q rfl), if_pos e]
theorem hSt_g {h : Nat} {v : Int32} (e : ¬ v = 33) : hSt h (2, v) = h - 1 := by unfold hSt; rw [if_neg (fun q => q rfl), if_neg e]
theorem isNm_ok {key v : Int32} (hk : key = 0 ∨ key = 1 ∨ key = 2) (h : isNm key v) : ∃ c : Nat, v = nI c ∧ okN key c := by
  unfold okN
  rcases h with ⟨e, h | h | h⟩ | ⟨e, h | h⟩ | ⟨e1, e2, h | h⟩
  · exact ⟨103, h, Or.inl ⟨e, Or.inl rfl⟩⟩
  · exact ⟨116, h, Or.inl ⟨e, Or.inr (Or.inl rfl)⟩⟩
  · exact ⟨115, h, Or.inl ⟨e, Or.inr (Or.inr rfl)⟩⟩
  · exact ⟨115, h, Or.inr (Or.inl ⟨e, Or.inl rfl⟩)⟩
  · exact ⟨100, h, Or.inr (Or.inl ⟨e, Or.inr rfl⟩)⟩
  · exact ⟨108, h, Or.inr (Or.inr ⟨(hk.resolve_left e1).resolve_left e2, Or.inl rfl⟩)⟩
  · exact ⟨116, h, Or.inr (Or.inr ⟨(hk.resolve_left e1).resolve_left e2, Or.inr rfl⟩)⟩
theorem lv_33 {v : Int32} (h : lvOf v < 5) : ¬ v = 33 := fun q => by rw [q] at h; exact absurd h (by decide)
/-- what reading leaves, where it comes through: its steps can be worked out, one number more lies on the pile -/
def wfR (key : Int32) (tp : Nat → Int32) (md : Nat) (o : sps) (r : rdR) : Prop := wfO key r.2.2 ∧ hL r.2.2 = (if md ≤ 5 then hL o + 1 else hL o) ∧ tkd tp r.2.1
theorem rdP_wf (tp : Nat → Int32) (L : Nat) {key : Int32} (hkey : key = 0 ∨ key = 1 ∨ key = 2) : ∀ f md b n (s : tk) (o : sps), tkd tp s → tko L s → (rdP tp L key f md b n s o).1 = true → wfO key o → (5 < md → 1 ≤ hL o) → (md ≤ 10) → wfR key tp md o (rdP tp L key f md b n s o)
  | 0, md, b, n, s, o, hd, ht, h, _, _, _ => absurd (show false = true from h) (by decide)
  | f + 1, md, b, n, s, o, hd, ht, h, hw, h1, hm => by
    have nd : tkd tp (nxs tp L s) := nxt_d _ _ _ _
    have nk := nxs_ok tp ht
    have ih := rdP_wf tp L hkey f
    by_cases c0 : md < 5
    · have er : rdP tp L key (f + 1) md b n s o = _ := rdP_lv c0
      rw [er] at h ⊢
      by_cases r1 : (rdP tp L key f (md + 1) b n s o).1 = true
      · rw [if_pos r1] at h ⊢
        obtain ⟨a1, a2, a3⟩ := ih (md + 1) b n s o hd ht r1 hw (fun q => absurd q (by omega)) (by omega)
        rw [if_pos (by omega)] at a2
        have rk := rdP_ok tp L key f (md + 1) b n s o ht
        obtain ⟨b1, b2, b3⟩ := ih (md + 6) b n _ _ a3 rk.1 h a1 (fun _ => by omega) (by omega)
        rw [if_neg (by omega)] at b2
        exact ⟨b1, by rw [if_pos (by omega), b2, a2], b3⟩
      · rw [if_neg r1] at h; exact absurd h r1
    by_cases c5 : md = 5
    · subst c5
      by_cases y2 : s.2.2 = 2
      · have er : rdP tp L key (f + 1) 5 b n s o = _ := rdP_n y2
        rw [er]
        obtain ⟨l4, dg⟩ := hd.1 y2
        obtain ⟨v, hv, ev⟩ := dgt_n (tp := tp) (p := s.1) (s.2.1 - s.1) l4 (fun j q1 q2 => dg j q1 (by have := ht.2.1; omega))
        have p4 : (10 : Nat) ^ (s.2.1 - s.1) ≤ 10 ^ 4 := Nat.pow_le_pow_right (by decide) l4
        exact ⟨hw.s (Or.inl ⟨rfl, v, by omega, ev⟩), by rw [if_pos (by decide)]; show hL (o ++ [_]) = _; rw [hL_s, hSt_p (show ¬ ((0 : Int32) = 2) by decide)], nd⟩
      by_cases y1 : s.2.2 = 1 ∧ s.2.1 - s.1 = 1 ∧ isNm key (tp s.1)
      · have er : rdP tp L key (f + 1) 5 b n s o = _ := rdP_w y1
        rw [er]
        exact ⟨hw.s (Or.inr (Or.inl ⟨rfl, isNm_ok hkey y1.2.2⟩)), by rw [if_pos (by decide)]; show hL (o ++ [_]) = _; rw [hL_s, hSt_p (show ¬ ((1 : Int32) = 2) by decide)], nd⟩
      by_cases y3 : s.2.2 = 3 ∧ tp s.1 = 33 ∧ n < 8
      · have er : rdP tp L key (f + 1) 5 b n s o = _ := rdP_t y3.1 y3.2.1 y3.2.2
        rw [er] at h ⊢
        by_cases r1 : (rdP tp L key f 5 b (n + 1) (nxs tp L s) o).1 = true
        · rw [if_pos r1] at h ⊢
          obtain ⟨a1, a2, a3⟩ := ih 5 b (n + 1) _ o nd nk.1 r1 hw (fun q => absurd q (by decide)) (by decide)
          rw [if_pos (by decide)] at a2
          exact ⟨a1.s (Or.inr (Or.inr ⟨rfl, Or.inl ⟨rfl, by omega⟩⟩)), by rw [if_pos (by decide)]; show hL (_ ++ [_]) = _; rw [hL_s, hSt_n rfl, a2], a3⟩
        · rw [if_neg r1] at h; exact absurd h r1
      by_cases y4 : s.2.2 = 3 ∧ tp s.1 = 40 ∧ b < 8
      · have er : rdP tp L key (f + 1) 5 b n s o = _ := rdP_b y4.1 y4.2.1 y4.2.2
        rw [er] at h ⊢
        by_cases r1 : (rdP tp L key f 0 (b + 1) n (nxs tp L s) o).1 = true
        · rw [if_pos r1] at h ⊢
          obtain ⟨a1, a2, a3⟩ := ih 0 (b + 1) n _ o nd nk.1 r1 hw (fun q => absurd q (by decide)) (by decide)
          rw [if_pos (by decide)] at a2
          split at h
          · rename_i q; rw [if_pos q]; exact ⟨a1, by rw [if_pos (by decide)]; exact a2, nxt_d _ _ _ _⟩
          · exact absurd (show false = true from h) (by decide)
        · rw [if_neg r1] at h; exact absurd h r1
      have er : rdP tp L key (f + 1) 5 b n s o = _ := rdP_f y2 y1 y3 y4
      rw [er] at h
      exact absurd (show false = true from h) (by decide)
    · by_cases sg : s.2.2 = 3 ∧ lvOf (tp s.1) = md - 6
      · have er : rdP tp L key (f + 1) md b n s o = _ := rdP_sg (by omega) sg.1 sg.2
        rw [er] at h ⊢
        by_cases r1 : (rdP tp L key f (md - 5) b n (nxs tp L s) o).1 = true
        · rw [if_pos r1] at h ⊢
          obtain ⟨a1, a2, a3⟩ := ih (md - 5) b n _ o nd nk.1 r1 hw (fun q => absurd q (by omega)) (by omega)
          rw [if_pos (by omega)] at a2
          have h1' := h1 (by omega)
          have l5 : lvOf (tp s.1) < 5 := by omega
          have w1 := a1.s (y := (2, tp s.1)) (Or.inr (Or.inr ⟨rfl, Or.inr ⟨lv_33 l5, l5, by omega⟩⟩))
          have w2 : hL ((rdP tp L key f (md - 5) b n (nxs tp L s) o).2.2 ++ [(2, tp s.1)]) = hL o := by rw [hL_s, hSt_g (lv_33 l5), a2]; omega
          have rk := rdP_ok tp L key f (md - 5) b n (nxs tp L s) o nk.1
          by_cases m8 : md = 8
          · rw [if_pos m8]; exact ⟨w1, by rw [if_neg (by omega)]; exact w2, a3⟩
          · rw [if_neg m8] at h ⊢
            obtain ⟨b1, b2, b3⟩ := ih md b n _ _ a3 rk.1 h w1 (fun _ => by rw [w2]; exact h1') hm
            rw [if_neg (by omega)] at b2
            exact ⟨b1, by rw [if_neg (by omega), b2, w2], b3⟩
        · rw [if_neg r1] at h; exact absurd h r1
      · have er : rdP tp L key (f + 1) md b n s o = _ := rdP_ns (by omega) sg
        rw [er]
        exact ⟨hw, by rw [if_neg (by omega)], hd⟩
/-! the row s holds the steps -/
section STL
variable {σ : Nat → Int32} {t : Nat} {o : sps} {key : Int32}
theorem hgt_hL (h : ∀ k, k < o.length → σ (158 + 200 * t + 2 * k) = (o.getD k (0, 0)).1 ∧ σ (159 + 200 * t + 2 * k) = (o.getD k (0, 0)).2) : ∀ k, k ≤ o.length → hgt σ t k = hL (o.take k)
  | 0, _ => by rw [List.take_zero]; rfl
  | k + 1, hk => by
    have ih := hgt_hL h k (by omega)
    obtain ⟨q1, q2⟩ := h k (by omega)
    have e : o.take (k + 1) = o.take k ++ [o.getD k (0, 0)] := by
      rw [List.take_succ_eq_append_getElem (by omega), List.getD_eq_getElem?_getD, List.getElem?_eq_getElem (by omega)]; rfl
    rw [e, hL_s]
    unfold hgt hSt
    rw [q1, q2, ih]
theorem cnt_take (o : sps) (k : Nat) : cntN (o.take k) ≤ cntN o := by
  unfold cntN
  exact List.Sublist.countP_le (List.take_sublist k o)
theorem wfT_o (hw : wfO key o) (h1 : hL o = 1) (h96 : o.length ≤ 96) (h0 : 0 < o.length) (ek : σ (154 + 200 * t) = key) (em : σ (156 + 200 * t) = nI o.length) (h : ∀ k, k < o.length → σ (158 + 200 * t + 2 * k) = (o.getD k (0, 0)).1 ∧ σ (159 + 200 * t + 2 * k) = (o.getD k (0, 0)).2) : wfT σ t o.length := by
  refine ⟨em, h0, by omega, fun k hk => ?_, by rw [hgt_hL h _ (Nat.le_refl _), List.take_length]; exact h1⟩
  obtain ⟨q1, q2⟩ := h k hk
  rw [hgt_hL h k (by omega), q1, q2, ek]
  have l1 := hw.2 k (by omega)
  have l2 : cntN (o.take k) ≤ (o.take k).length := List.countP_le_length
  rw [List.length_take] at l2
  refine ⟨by omega, ?_⟩
  rcases hw.1 k hk with ⟨w, _⟩ | ⟨w, c, w1, w2⟩ | ⟨w, ⟨w1, w2⟩ | ⟨w1, w2, w3⟩⟩
  · exact Or.inl w
  · exact Or.inr (Or.inl ⟨w, c, w1, w2⟩)
  · exact Or.inr (Or.inr ⟨w, Or.inl ⟨w1, w2⟩⟩)
  · exact Or.inr (Or.inr ⟨w, Or.inr ⟨w1, w3⟩⟩)
theorem wf_pcs (hw : wfO key o) {k : Nat} (hk : k < o.length) (hp : ¬ (o.getD k (0, 0)).1 = 2) : hL (o.take k) < cntN o := by
  have e : o.take (k + 1) = o.take k ++ [o.getD k (0, 0)] := by
    rw [List.take_succ_eq_append_getElem (by omega), List.getD_eq_getElem?_getD, List.getElem?_eq_getElem (by omega)]; rfl
  have c1 := cnt_take o (k + 1)
  rw [e, cntN_s, if_pos hp] at c1
  have c2 := hw.2 k (by omega)
  omega
end STL
