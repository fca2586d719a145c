/-! ===== a World becomes as another ===== -/
/-- the cells of a World -/
def wC (ad : Nat → Nat) (a : Nat) : Prop := ∃ i, wIx i ∧ a = ad i
/-- some of a World's numbers are the row's -/
def WRp (D : Nat → Prop) (P : pS) (ad : Nat → Nat) (τ : Nat → Int32) : Prop := (∀ f i k, cI f i k → D k → gI P f (ad i) = τ k) ∧ (∀ j, j < 8 → D (6 + j) → gX P (ad 2) j = τ (6 + j)) ∧ (∀ j, j < 100 → D (54 + j) → gX P (ad 4) j = τ (54 + j))
section WRPS
variable {P : pS} {ad : Nat → Nat} {τ : Nat → Int32} {D D' : Nat → Prop}
theorem WRp.mo (h : WRp D P ad τ) (hD : ∀ k, D' k → D k) : WRp D' P ad τ := ⟨fun f i k c q => h.1 f i k c (hD k q), fun j hj q => h.2.1 j hj (hD _ q), fun j hj q => h.2.2 j hj (hD _ q)⟩
theorem WRp.all (h : WRp D P ad τ) (hD : ∀ k, k < 154 → D k) : WR P ad τ := ⟨fun f i k c => h.1 f i k c (hD k (by unfold cI at c; omega)), fun j hj => h.2.1 j hj (hD _ (by omega)), fun j hj => h.2.2 j hj (hD _ (by omega))⟩
theorem WRp.I (h : WRp D P ad τ) (hS : WS P ad) {f i k : Nat} (hc : cI f i k) : WRp (fun q => D q ∨ q = k) (sI P f (ad i) (τ k)) ad τ := by
  refine ⟨fun f' i' k' hc' hD => ?_, fun j hj hD => ?_, fun j hj hD => ?_⟩
  · rw [gI_sI]
    by_cases q : k' = k
    · subst q
      obtain ⟨e1, e2⟩ := (cI_1 hc hc').mpr rfl
      subst e1; subst e2
      rw [if_pos ⟨rfl, rfl⟩]
    · rw [if_neg (fun w => q ((cI_1 hc hc').mp ⟨w.1, hS.2.2.2.2.1 _ _ (cI_ix hc').1 (cI_ix hc).1 w.2⟩))]
      exact h.1 _ _ _ hc' (hD.resolve_right q)
  · exact h.2.1 j hj (hD.resolve_right (by unfold cI at hc; omega))
  · exact h.2.2 j hj (hD.resolve_right (by unfold cI at hc; omega))
theorem WRp.A (h : WRp D P ad τ) (hS : WS P ad) {r : Nat → Int32} (hr : ∀ j, j < 8 → r j = τ (6 + j)) : WRp (fun q => D q ∨ (6 ≤ q ∧ q < 14)) (sX P (ad 2) r) ad τ := by
  refine ⟨fun f i k hc hD => h.1 f i k hc (hD.resolve_right (by unfold cI at hc; omega)), fun j hj _ => ?_, fun j hj hD => ?_⟩
  · rw [gX_sX, if_pos rfl]; exact hr j hj
  · rw [gX_sX, if_neg (fun w => absurd (hS.2.2.2.2.1 4 2 (by decide) (by decide) w) (by decide))]; exact h.2.2 j hj (hD.resolve_right (by omega))
theorem WRp.B (h : WRp D P ad τ) (hS : WS P ad) {r : Nat → Int32} (hr : ∀ j, j < 100 → r j = τ (54 + j)) : WRp (fun q => D q ∨ (54 ≤ q ∧ q < 154)) (sX P (ad 4) r) ad τ := by
  refine ⟨fun f i k hc hD => h.1 f i k hc (hD.resolve_right (by unfold cI at hc; omega)), fun j hj hD => ?_, fun j hj _ => ?_⟩
  · rw [gX_sX, if_neg (fun w => absurd (hS.2.2.2.2.1 2 4 (by decide) (by decide) w) (by decide))]; exact h.2.1 j hj (hD.resolve_right (by omega))
  · rw [gX_sX, if_pos rfl]; exact hr j hj
theorem WRp.w4 (h : WRp D P ad τ) (hS : WS P ad) {i : Nat} (hi : i < 10) : WRp (fun q => D q ∨ (14 + 4 * i ≤ q ∧ q < 18 + 4 * i)) (s4 P (ad (10 + i)) (τ (14 + 4 * i + 0)) (τ (14 + 4 * i + 1)) (τ (14 + 4 * i + 2)) (τ (14 + 4 * i + 3))) ad τ := by
  have w := (((h.I hS (f := 192) (i := 10 + i) (k := 14 + 4 * i + 0) (by unfold cI; omega)).I hS (f := 193) (i := 10 + i) (k := 14 + 4 * i + 1) (by unfold cI; omega)).I hS (f := 194) (i := 10 + i) (k := 14 + 4 * i + 2) (by unfold cI; omega)).I hS (f := 195) (i := 10 + i) (k := 14 + 4 * i + 3) (by unfold cI; omega)
  refine w.mo (fun q hq => ?_)
  rcases hq with hq | hq
  · exact Or.inl (Or.inl (Or.inl (Or.inl hq)))
  · rcases (show q = 14 + 4 * i + 0 ∨ q = 14 + 4 * i + 1 ∨ q = 14 + 4 * i + 2 ∨ q = 14 + 4 * i + 3 by omega) with e | e | e | e
    · exact Or.inl (Or.inl (Or.inl (Or.inr e)))
    · exact Or.inl (Or.inl (Or.inr e))
    · exact Or.inl (Or.inr e)
    · exact Or.inr e
theorem WRp.oth (h : WRp D P ad τ) (hS : WS P ad) (r : Nat → Int32) : WRp D (sX P (ad 6) r) ad τ := by
  refine ⟨h.1, fun j hj hD => ?_, fun j hj hD => ?_⟩
  · rw [gX_sX, if_neg (fun w => absurd (hS.2.2.2.2.1 2 6 (by decide) (by decide) w) (by decide))]; exact h.2.1 j hj hD
  · rw [gX_sX, if_neg (fun w => absurd (hS.2.2.2.2.1 4 6 (by decide) (by decide) w) (by decide))]; exact h.2.2 j hj hD
end WRPS
def lyo (f g : Nat → Option Nat) (k : Nat) : Nat → Option Nat := fun j => if j < k then f j else g j
theorem sY_s (S : pS) (a k : Nat) (f g : Nat → Option Nat) : sY (sY S a (lyo f g k)) a (va_up (gY (sY S a (lyo f g k)) a) k (f k)) = sY S a (lyo f g (k + 1)) := by
  have e : va_up (gY (sY S a (lyo f g k)) a) k (f k) = lyo f g (k + 1) := by
    funext j
    show va_up (va_up (gY S) a (lyo f g k) a) k (f k) j = _
    rw [va_up_self]
    by_cases h : j = k
    · subst h; rw [va_up_self]; unfold lyo; rw [if_pos (by omega)]
    · rw [va_up_ne _ _ h]
      unfold lyo
      by_cases w : j < k
      · rw [if_pos w, if_pos (by omega)]
      · rw [if_neg w, if_neg (by omega)]
  rw [e]
  unfold sY
  simp only [gN, gX, gY, Prod.mk.injEq, true_and]
  exact bx_uu _ _ _ _
theorem sY_self (S : pS) (a : Nat) (f : Nat → Option Nat) : sY S a (lyo f (gY S a) 0) = S := by
  have e : lyo f (gY S a) 0 = gY S a := by funext j; unfold lyo; rw [if_neg (by omega)]
  rw [e]
  unfold sY
  rw [vu_self]
  rfl
set_option maxRecDepth 100000 in
set_option maxHeartbeats 1000000 in
theorem b_becomeAs {x : pX} {d : Nat} {S : pS} {Q : pS → Prop} {ad bd : Nat → Nat} (hA : WS S ad) (hB : WS S bd) (h : Q (sX (sI S 1 (ad 3) (gI S 1 (bd 3))) (ad 4) (va_cpy (gX S (bd 4)) (gX S (ad 4)) 0 0 100))) : PV x (d + 1) M_X0_becomeAs [.ref ((ad 3)), .ref ((bd 3))] S Q := by
  refine PM_of (by decide +kernel) (Nat.le_of_ble_eq_true rfl) ?_
  show V x (d + 1) M_X0_becomeAs (qv Q) (0, 0) 0 [(0, .ref ((ad 3))), (1, .ref ((bd 3)))] [] S
  refine V_aln (pc := 0) dX0_becomeAs_0 rfl rfl ?_
  refine V_aln (pc := 1) dX0_becomeAs_1 rfl rfl ?_
  refine V_gie (pc := 2) 0 1 1 dX0_becomeAs_2 (FL_X0_15 rfl) rfl rfl (hB.k 3 (by decide) rfl) rfl ?_
  refine V_pi (pc := 5) 0 1 1 dX0_becomeAs_5 (FL_X0_15 rfl) rfl rfl rfl (hA.k 3 (by decide) rfl) ?_
  refine V_aln (pc := 8) dX0_becomeAs_8 rfl rfl ?_
  refine V_gr (pc := 9) 0 0 0 dX0_becomeAs_9 (FL_X0_9 rfl) rfl rfl (hB.k 3 (by decide) rfl) hB.2.2.1.2.2.2.2.2.2.2 ?_
  refine V_iconst (pc := 12) (v := 0) dX0_becomeAs_12 (by decide) ?_
  refine V_aln (pc := 13) dX0_becomeAs_13 rfl rfl ?_
  refine V_gr (pc := 14) 0 0 0 dX0_becomeAs_14 (FL_X0_9 rfl) rfl rfl (hA.k 3 (by decide) rfl) hA.2.2.1.2.2.2.2.2.2.2 ?_
  refine V_iconst (pc := 17) (v := 0) dX0_becomeAs_17 (by decide) ?_
  refine V_aln (pc := 18) dX0_becomeAs_18 rfl rfl ?_
  refine V_gr (pc := 19) 0 0 0 dX0_becomeAs_19 (FL_X0_9 rfl) rfl rfl (hA.k 3 (by decide) rfl) hA.2.2.1.2.2.2.2.2.2.2 ?_
  refine V_len (pc := 22) (N := 100) dX0_becomeAs_22 (hA.k 4 (by decide) rfl) (hA.2.1 4 (by decide)) ?_
  refine V_acp (pc := 23) 0 0 100 100 100 (ja_X0_19 dX0_becomeAs_23 rfl) (by omega) (Nat.le_of_ble_eq_true rfl) (hB.k 4 (by decide) rfl) (hA.k 4 (by decide) rfl) (hB.2.1 4 (by decide)) (hA.2.1 4 (by decide)) rfl rfl rfl (by decide) (by decide) (by decide) (by decide) ?_
  refine V_ret (pc := 26) dX0_becomeAs_26 rfl ?_
  exact h
set_option maxRecDepth 100000 in
set_option maxHeartbeats 1000000 in
theorem w_bec_L2 {x : pX} {d : Nat} {S : pS} {b : Nat × Nat} {Q : pS → Prop} {ad bd : Nat → Nat} (hA : WS S ad) (hB : WS S bd) (hD : ∀ i j, wIx i → wIx j → ad i ≠ bd j) (hY : WY S bd) (h : ∀ r, (∀ k, k < 14 → r k = gY S (bd 5) k) → Q (sY (sX S (ad 6) (va_cpy (gX S (bd 6)) (gX S (ad 6)) 0 0 3)) (ad 5) r)) : ∀ (c k : Nat), k + c = 14 → V x (d + 2) M_X7_becomeAs (qv Q) b 100 [(0, .ref ((ad 0))), (1, .ref ((bd 0))), (2, .int (nI k))] [] (sY S (ad 5) (lyo (gY S (bd 5)) (gY S (ad 5)) k)) := by
  intro c
  induction c with
  | zero =>
    intro k hk 
    refine V_iln (pc := 100) dX7_becomeAs_100 rfl rfl ?_
    refine V_bipush (pc := 101) (v := 14) dX7_becomeAs_101 (by decide) ?_
    refine V_cge (pc := 103) (t := 124) dX7_becomeAs_103 (by decide) (fun h103 => ?_) (fun h103 => ?_)
    · refine V_aln (pc := 124) dX7_becomeAs_124 rfl rfl ?_
      refine V_gr (pc := 125) 7 9 233 dX7_becomeAs_125 (FL_X7_39 rfl) rfl rfl (hB.k 0 (by decide) rfl) hB.2.2.1.2.2.2.2.1 ?_
      refine V_iconst (pc := 128) (v := 0) dX7_becomeAs_128 (by decide) ?_
      refine V_aln (pc := 129) dX7_becomeAs_129 rfl rfl ?_
      refine V_gr (pc := 130) 7 9 233 dX7_becomeAs_130 (FL_X7_39 rfl) rfl rfl (hA.k 0 (by decide) rfl) hA.2.2.1.2.2.2.2.1 ?_
      refine V_iconst (pc := 133) (v := 0) dX7_becomeAs_133 (by decide) ?_
      refine V_iconst (pc := 134) (v := 3) dX7_becomeAs_134 (by decide) ?_
      refine V_acp (pc := 135) 0 0 3 3 3 (ja_X7_63 dX7_becomeAs_135 rfl) (by omega) (Nat.le_of_ble_eq_true rfl) (hB.k 6 (by decide) rfl) (hA.k 6 (by decide) rfl) (hB.2.1 6 (by decide)) (hA.2.1 6 (by decide)) rfl rfl rfl (by decide) (by decide) (by decide) (by decide) ?_
      refine V_ret (pc := 138) dX7_becomeAs_138 rfl ?_
      obtain rfl : k = 14 := by omega
      exact h (lyo (gY S (bd 5)) (gY S (ad 5)) 14) (fun q hq => by unfold lyo; rw [if_pos hq])
    · exact absurd (nI_le (a := 14) (by omega) (by omega)) h103
  | succ c ih =>
    intro k hk 
    have eY : gY (sY S (ad 5) (lyo (gY S (bd 5)) (gY S (ad 5)) k)) (bd 5) k = gY S (bd 5) k := by
      show va_up (gY S) (ad 5) _ (bd 5) k = _
      rw [va_up_ne _ _ (fun q => hD 5 5 (by decide) (by decide) q.symm)]
    refine V_iln (pc := 100) dX7_becomeAs_100 rfl rfl ?_
    refine V_bipush (pc := 101) (v := 14) dX7_becomeAs_101 (by decide) ?_
    refine V_cge (pc := 103) (t := 124) dX7_becomeAs_103 (by decide) (fun h103 => ?_) (fun h103 => ?_)
    · exact absurd h103 (nI_ge (b := 14) (by omega) (by decide))
    · refine V_aln (pc := 106) dX7_becomeAs_106 rfl rfl ?_
      refine V_gr (pc := 107) 7 7 231 dX7_becomeAs_107 (FL_X7_34 rfl) rfl rfl (hA.k 0 (by decide) rfl) hA.2.2.1.2.2.2.1 ?_
      refine V_iln (pc := 110) dX7_becomeAs_110 rfl rfl ?_
      refine V_aln (pc := 111) dX7_becomeAs_111 rfl rfl ?_
      refine V_gr (pc := 112) 7 7 231 dX7_becomeAs_112 (FL_X7_34 rfl) rfl rfl (hB.k 0 (by decide) rfl) hB.2.2.1.2.2.2.1 ?_
      refine V_iln (pc := 115) dX7_becomeAs_115 rfl rfl ?_
      cases e : gY S (bd 5) k with
      | none =>
        refine V_aaN (pc := 116) (N := 14) 13 k dX7_becomeAs_116 (by decide) (by decide) (hB.k 5 (by decide) rfl) (hB.2.1 5 (by decide)) (by decide) rfl (by omega) (by rw [eY]; exact e) ?_
        refine V_aasN (pc := 117) (N := 14) 13 5 k dX7_becomeAs_117 (by decide) (by decide) (by decide) rfl (hA.k 5 (by decide) rfl) (hA.2.1 5 (by decide)) (by decide) rfl (by omega) ?_
        rw [← e, sY_s]
        refine V_inc (pc := 118) (fun y => [(0, .ref ((ad 0))), (1, .ref ((bd 0))), (2, .int y)]) (w := 1) dX7_becomeAs_118 (by decide) (by decide) rfl (fun _ => rfl) (fun y118 ey118 => ?_)
        obtain rfl : y118 = nI (k + 1) := by rw [ey118]; exact nI_1 _
        refine V_goto (pc := 121) (t := 100) dX7_becomeAs_121 (by decide) ?_
        exact ih (k + 1) (by omega)
      | some τ =>
        refine V_aa (pc := 116) (N := 14) 13 k dX7_becomeAs_116 (by decide) (by decide) (hB.k 5 (by decide) rfl) (hB.2.1 5 (by decide)) (by decide) rfl (by omega) (by rw [eY]; exact e) ?_
        refine V_aas (pc := 117) (N := 14) 13 5 k dX7_becomeAs_117 (by decide) (by decide) (by decide) rfl (hA.k 5 (by decide) rfl) (hY k (by omega) τ e) (hA.2.1 5 (by decide)) (by decide) rfl (by omega) ?_
        rw [← e, sY_s]
        refine V_inc (pc := 118) (fun y => [(0, .ref ((ad 0))), (1, .ref ((bd 0))), (2, .int y)]) (w := 1) dX7_becomeAs_118 (by decide) (by decide) rfl (fun _ => rfl) (fun y118 ey118 => ?_)
        obtain rfl : y118 = nI (k + 1) := by rw [ey118]; exact nI_1 _
        refine V_goto (pc := 121) (t := 100) dX7_becomeAs_121 (by decide) ?_
        exact ih (k + 1) (by omega)
set_option maxRecDepth 100000 in
set_option maxHeartbeats 1000000 in
theorem w_bec_37 {x : pX} {d : Nat} {S : pS} {b : Nat × Nat} {Q : pS → Prop} {S0 : pS} {ad bd : Nat → Nat} {τ : Nat → Int32} (hA0 : WS S0 ad) (hB0 : WS S0 bd) (hD : ∀ i j, wIx i → wIx j → ad i ≠ bd j) (hW0 : WR S0 bd τ) (hY0 : WY S0 bd) (h : ∀ S1 r, fr (wC ad) S0 S1 → WR S1 ad τ → (∀ j, j < 3 → gX S1 (ad 6) j = gX S0 (bd 6) j) → (∀ k, k < 14 → r k = gY S0 (bd 5) k) → Q (sY S1 (ad 5) r)) (hf : fr (wC ad) S0 S) (hP : WRp (fun q => q = 0 ∨ (14 ≤ q ∧ q < 54)) S ad τ) : V x (d + 2) M_X7_becomeAs (qv Q) b 37 [(0, .ref ((ad 0))), (1, .ref ((bd 0)))] [] S := by
  have hA := hA0.sp hf.1
  have hB := hB0.sp hf.1
  have nB : ∀ i, wIx i → ¬ wC ad (bd i) := fun i hi ⟨j, hj, q⟩ => hD j i hj hi q.symm
  have hW := hW0.fr hf nB
  refine V_aln (pc := 37) dX7_becomeAs_37 rfl rfl ?_
  refine V_gr (pc := 38) 7 2 226 dX7_becomeAs_38 (FL_X7_17 rfl) rfl rfl (hB.k 0 (by decide) rfl) hB.2.2.1.2.1 ?_
  refine V_iconst (pc := 41) (v := 0) dX7_becomeAs_41 (by decide) ?_
  refine V_aln (pc := 42) dX7_becomeAs_42 rfl rfl ?_
  refine V_gr (pc := 43) 7 2 226 dX7_becomeAs_43 (FL_X7_17 rfl) rfl rfl (hA.k 0 (by decide) rfl) hA.2.2.1.2.1 ?_
  refine V_iconst (pc := 46) (v := 0) dX7_becomeAs_46 (by decide) ?_
  refine V_aln (pc := 47) dX7_becomeAs_47 rfl rfl ?_
  refine V_gr (pc := 48) 7 2 226 dX7_becomeAs_48 (FL_X7_17 rfl) rfl rfl (hA.k 0 (by decide) rfl) hA.2.2.1.2.1 ?_
  refine V_len (pc := 51) (N := 8) dX7_becomeAs_51 (hA.k 2 (by decide) rfl) (hA.2.1 2 (by decide)) ?_
  refine V_acp (pc := 52) 0 0 8 8 8 (ja_X7_63 dX7_becomeAs_52 rfl) (by omega) (Nat.le_of_ble_eq_true rfl) (hB.k 2 (by decide) rfl) (hA.k 2 (by decide) rfl) (hB.2.1 2 (by decide)) (hA.2.1 2 (by decide)) rfl rfl rfl (by decide) (by decide) (by decide) (by decide) ?_
  have f52 := hf.sX (a := ad 2) ⟨2, by decide, rfl⟩ (va_cpy (gX S (bd 2)) (gX S (ad 2)) 0 0 8)
  have w52 := hW0.fr f52 nB
  have p52 := hP.A hA (r := va_cpy (gX S (bd 2)) (gX S (ad 2)) 0 0 8) (fun j hj => by rw [cpy_at, if_pos (by omega), show 0 + (j - 0) = j by omega]; exact hW.2.1 j hj)
  refine V_aln (pc := 55) dX7_becomeAs_55 rfl rfl ?_
  refine V_gr (pc := 56) 7 3 227 dX7_becomeAs_56 (FL_X7_24 rfl) rfl rfl (hA.k 0 (by decide) rfl) hA.2.2.1.2.2.1 ?_
  refine V_aln (pc := 59) dX7_becomeAs_59 rfl rfl ?_
  refine V_gr (pc := 60) 7 3 227 dX7_becomeAs_60 (FL_X7_24 rfl) rfl rfl (hB.k 0 (by decide) rfl) hB.2.2.1.2.2.1 ?_
  refine V_cVv0 (pc := 63) (jc_X7_69 dX7_becomeAs_63 rfl) rfl rfl (Nat.le_of_ble_eq_true rfl) (hA.k 3 (by decide) rfl) ?_
  refine b_becomeAs hA hB ?_
  rw [w52.1 1 3 5 (by decide)]
  have f63 := (f52.sI (a := ad 3) ⟨3, by decide, rfl⟩ 1 (τ 5)).sX (a := ad 4) ⟨4, by decide, rfl⟩ (va_cpy (gX (sX S (ad 2) (va_cpy (gX S (bd 2)) (gX S (ad 2)) 0 0 8)) (bd 4)) (gX (sX S (ad 2) (va_cpy (gX S (bd 2)) (gX S (ad 2)) 0 0 8)) (ad 4)) 0 0 100)
  have w63 := hW0.fr f63 nB
  have p63 := (p52.I hA (f := 1) (i := 3) (k := 5) (by decide)).B hA (r := va_cpy (gX (sX S (ad 2) (va_cpy (gX S (bd 2)) (gX S (ad 2)) 0 0 8)) (bd 4)) (gX (sX S (ad 2) (va_cpy (gX S (bd 2)) (gX S (ad 2)) 0 0 8)) (ad 4)) 0 0 100) (fun j hj => by rw [cpy_at, if_pos (by omega), show 0 + (j - 0) = j by omega]; exact w52.2.2 j hj)
  refine V_aln (pc := 66) dX7_becomeAs_66 rfl rfl ?_
  refine V_aln (pc := 67) dX7_becomeAs_67 rfl rfl ?_
  refine V_gi (pc := 68) 7 4 228 dX7_becomeAs_68 (FL_X7_72 rfl) rfl rfl (hB.k 0 (by decide) rfl) ?_
  refine V_pi (pc := 71) 7 4 228 dX7_becomeAs_71 (FL_X7_72 rfl) rfl rfl rfl (hA.k 0 (by decide) rfl) ?_
  rw [w63.1 228 0 2 (by decide)]
  have f71 := f63.sI (a := ad 0) ⟨0, by decide, rfl⟩ 228 (τ 2)
  have w71 := hW0.fr f71 nB
  have p71 := p63.I hA (f := 228) (i := 0) (k := 2) (by decide)
  refine V_aln (pc := 74) dX7_becomeAs_74 rfl rfl ?_
  refine V_aln (pc := 75) dX7_becomeAs_75 rfl rfl ?_
  refine V_gi (pc := 76) 7 5 229 dX7_becomeAs_76 (FL_X7_75 rfl) rfl rfl (hB.k 0 (by decide) rfl) ?_
  refine V_pi (pc := 79) 7 5 229 dX7_becomeAs_79 (FL_X7_75 rfl) rfl rfl rfl (hA.k 0 (by decide) rfl) ?_
  rw [w71.1 229 0 3 (by decide)]
  have f79 := f71.sI (a := ad 0) ⟨0, by decide, rfl⟩ 229 (τ 3)
  have w79 := hW0.fr f79 nB
  have p79 := p71.I hA (f := 229) (i := 0) (k := 3) (by decide)
  refine V_aln (pc := 82) dX7_becomeAs_82 rfl rfl ?_
  refine V_aln (pc := 83) dX7_becomeAs_83 rfl rfl ?_
  refine V_gi (pc := 84) 7 6 230 dX7_becomeAs_84 (FL_X7_28 rfl) rfl rfl (hB.k 0 (by decide) rfl) ?_
  refine V_pi (pc := 87) 7 6 230 dX7_becomeAs_87 (FL_X7_28 rfl) rfl rfl rfl (hA.k 0 (by decide) rfl) ?_
  rw [w79.1 230 0 4 (by decide)]
  have f87 := f79.sI (a := ad 0) ⟨0, by decide, rfl⟩ 230 (τ 4)
  have w87 := hW0.fr f87 nB
  have p87 := p79.I hA (f := 230) (i := 0) (k := 4) (by decide)
  refine V_aln (pc := 90) dX7_becomeAs_90 rfl rfl ?_
  refine V_aln (pc := 91) dX7_becomeAs_91 rfl rfl ?_
  refine V_gi (pc := 92) 7 8 232 dX7_becomeAs_92 (FL_X7_78 rfl) rfl rfl (hB.k 0 (by decide) rfl) ?_
  refine V_pi (pc := 95) 7 8 232 dX7_becomeAs_95 (FL_X7_78 rfl) rfl rfl rfl (hA.k 0 (by decide) rfl) ?_
  rw [w87.1 232 0 1 (by decide)]
  have f95 := f87.sI (a := ad 0) ⟨0, by decide, rfl⟩ 232 (τ 1)
  have w95 := hW0.fr f95 nB
  have p95 := p87.I hA (f := 232) (i := 0) (k := 1) (by decide)
  refine V_iconst (pc := 98) (v := 0) dX7_becomeAs_98 (by decide) ?_
  refine V_isn (pc := 99) (fun y => [(0, .ref ((ad 0))), (1, .ref ((bd 0))), (2, .int y)]) dX7_becomeAs_99 rfl (by decide) (fun _ => rfl) (fun y99 ey99 => ?_)
  obtain rfl : y99 = nI 0 := ey99
  have q := w_bec_L2 (x := x) (d := d) (b := b) (Q := Q) (hA0.sp f95.1) (hB0.sp f95.1) hD (hY0.sp f95.1) (fun r hr => ?_) 14 0 (by omega)
  · rw [sY_self] at q; exact q
  · refine h _ r (f95.sX (a := ad 6) ⟨6, by decide, rfl⟩ _) ((p95.oth hA _).all (fun k hk => by omega)) (fun j hj => ?_) (fun k hk => (hr k hk).trans (by rw [gY_sp f95.1]))
    rw [gX_sX, if_pos rfl, cpy_at, if_pos (by omega), f95.2.2 _ (nB 6 (by decide))]
    exact congrArg (gX S0 (bd 6)) (by omega)
set_option maxRecDepth 100000 in
set_option maxHeartbeats 1000000 in
theorem w_bec_L1 {x : pX} {d : Nat} {b : Nat × Nat} {Q : pS → Prop} {S0 : pS} {ad bd : Nat → Nat} {τ : Nat → Int32} (hA0 : WS S0 ad) (hB0 : WS S0 bd) (hD : ∀ i j, wIx i → wIx j → ad i ≠ bd j) (hW0 : WR S0 bd τ) (hY0 : WY S0 bd) (h : ∀ S1 r, fr (wC ad) S0 S1 → WR S1 ad τ → (∀ j, j < 3 → gX S1 (ad 6) j = gX S0 (bd 6) j) → (∀ k, k < 14 → r k = gY S0 (bd 5) k) → Q (sY S1 (ad 5) r))  : ∀ (c k : Nat), k + c = 10 → ∀ (S : pS), fr (wC ad) S0 S → WRp (fun q => q = 0 ∨ (14 ≤ q ∧ q < 14 + 4 * k)) S ad τ → V x (d + 2) M_X7_becomeAs (qv Q) b 10 [(0, .ref ((ad 0))), (1, .ref ((bd 0))), (2, .int (nI k))] [] S := by
  intro c
  induction c with
  | zero =>
    intro k hk S hf hP
    have hA := hA0.sp hf.1
    have hB := hB0.sp hf.1
    have nB : ∀ i, wIx i → ¬ wC ad (bd i) := fun i hi ⟨j, hj, q⟩ => hD j i hj hi q.symm
    have hW := hW0.fr hf nB
    refine V_iln (pc := 10) dX7_becomeAs_10 rfl rfl ?_
    refine V_bipush (pc := 11) (v := 10) dX7_becomeAs_11 (by decide) ?_
    refine V_cge (pc := 13) (t := 37) dX7_becomeAs_13 (by decide) (fun h13 => ?_) (fun h13 => ?_)
    · refine V_lp [0, 1] (ls' := [(0, .ref ((ad 0))), (1, .ref ((bd 0)))]) rfl ?_
      exact w_bec_37 hA0 hB0 hD hW0 hY0 h hf (hP.mo (fun q hq => by omega))
    · exact absurd (nI_le (a := 10) (by omega) (by omega)) h13
  | succ c ih =>
    intro k hk S hf hP
    have hA := hA0.sp hf.1
    have hB := hB0.sp hf.1
    have nB : ∀ i, wIx i → ¬ wC ad (bd i) := fun i hi ⟨j, hj, q⟩ => hD j i hj hi q.symm
    have hW := hW0.fr hf nB
    refine V_iln (pc := 10) dX7_becomeAs_10 rfl rfl ?_
    refine V_bipush (pc := 11) (v := 10) dX7_becomeAs_11 (by decide) ?_
    refine V_cge (pc := 13) (t := 37) dX7_becomeAs_13 (by decide) (fun h13 => ?_) (fun h13 => ?_)
    · exact absurd h13 (nI_ge (b := 10) (by omega) (by decide))
    · refine V_aln (pc := 16) dX7_becomeAs_16 rfl rfl ?_
      refine V_gr (pc := 17) 7 0 224 dX7_becomeAs_17 (FL_X7_11 rfl) rfl rfl (hA.k 0 (by decide) rfl) hA.2.2.1.1 ?_
      refine V_iln (pc := 20) dX7_becomeAs_20 rfl rfl ?_
      refine V_aa (pc := 21) (N := 10) 14 k dX7_becomeAs_21 (by decide) (by decide) (hA.k 1 (by decide) rfl) (hA.2.1 1 (by decide)) (by decide) rfl (by show (_ : Nat) < 10; omega) (hA.2.2.2.1 k (by omega)) ?_
      refine V_aln (pc := 22) dX7_becomeAs_22 rfl rfl ?_
      refine V_gr (pc := 23) 7 0 224 dX7_becomeAs_23 (FL_X7_11 rfl) rfl rfl (hB.k 0 (by decide) rfl) hB.2.2.1.1 ?_
      refine V_iln (pc := 26) dX7_becomeAs_26 rfl rfl ?_
      refine V_aa (pc := 27) (N := 10) 14 k dX7_becomeAs_27 (by decide) (by decide) (hB.k 1 (by decide) rfl) (hB.2.1 1 (by decide)) (by decide) rfl (by show (_ : Nat) < 10; omega) (hB.2.2.2.1 k (by omega)) ?_
      refine V_cVv0 (pc := 28) (jc_X7_59 dX7_becomeAs_28 rfl) rfl rfl (Nat.le_of_ble_eq_true rfl) (hA.w (by omega)) ?_
      refine c_becomeAs (hA.w (by omega)) (hB.w (by omega)) ?_
      rw [hW.1 192 (10 + k) (14 + 4 * k + 0) (by unfold cI; omega), hW.1 193 (10 + k) (14 + 4 * k + 1) (by unfold cI; omega), hW.1 194 (10 + k) (14 + 4 * k + 2) (by unfold cI; omega), hW.1 195 (10 + k) (14 + 4 * k + 3) (by unfold cI; omega)]
      refine V_inc (pc := 31) (fun y => [(0, .ref ((ad 0))), (1, .ref ((bd 0))), (2, .int y)]) (w := 1) dX7_becomeAs_31 (by decide) (by decide) rfl (fun _ => rfl) (fun y31 ey31 => ?_)
      obtain rfl : y31 = nI (k + 1) := by rw [ey31]; exact nI_1 _
      refine V_goto (pc := 34) (t := 10) dX7_becomeAs_34 (by decide) ?_
      exact ih (k + 1) (by omega) _ (hf.tr (s4_fr ⟨10 + k, by unfold wIx; omega, rfl⟩ _ _ _ _)) ((hP.w4 hA (i := k) (by omega)).mo (fun q hq => by omega))
set_option maxRecDepth 100000 in
set_option maxHeartbeats 1000000 in
theorem w_becomeAs {x : pX} {d : Nat} {S : pS} {Q : pS → Prop} {ad bd : Nat → Nat} {τ : Nat → Int32} (hA0 : WS S ad) (hB0 : WS S bd) (hD : ∀ i j, wIx i → wIx j → ad i ≠ bd j) (hW0 : WR S bd τ) (hY0 : WY S bd) (h : ∀ S1 r, fr (wC ad) S S1 → WR S1 ad τ → (∀ j, j < 3 → gX S1 (ad 6) j = gX S (bd 6) j) → (∀ k, k < 14 → r k = gY S (bd 5) k) → Q (sY S1 (ad 5) r))  : PV x (d + 2) M_X7_becomeAs [.ref ((ad 0)), .ref ((bd 0))] S Q := by
  refine PM_of (by decide +kernel) (Nat.le_of_ble_eq_true rfl) ?_
  show V x (d + 2) M_X7_becomeAs (qv Q) (0, 0) 0 [(0, .ref ((ad 0))), (1, .ref ((bd 0)))] [] S
  refine V_aln (pc := 0) dX7_becomeAs_0 rfl rfl ?_
  refine V_aln (pc := 1) dX7_becomeAs_1 rfl rfl ?_
  refine V_gie (pc := 2) 7 1 225 dX7_becomeAs_2 (FL_X7_56 rfl) rfl rfl (hB0.k 0 (by decide) rfl) (hW0.1 225 0 0 (by decide)) ?_
  refine V_pi (pc := 5) 7 1 225 dX7_becomeAs_5 (FL_X7_56 rfl) rfl rfl rfl (hA0.k 0 (by decide) rfl) ?_
  refine V_iconst (pc := 8) (v := 0) dX7_becomeAs_8 (by decide) ?_
  refine V_isn (pc := 9) (fun y => [(0, .ref ((ad 0))), (1, .ref ((bd 0))), (2, .int y)]) dX7_becomeAs_9 rfl (by decide) (fun _ => rfl) (fun y9 ey9 => ?_)
  obtain rfl : y9 = nI 0 := ey9
  exact w_bec_L1 hA0 hB0 hD hW0 hY0 h 10 0 (by omega) _ (fr.rf.sI (a := ad 0) ⟨0, by decide, rfl⟩ 225 (τ 0)) ((WRp.I (D := fun _ => False) ⟨fun _ _ _ _ q => q.elim, fun _ _ q => q.elim, fun _ _ q => q.elim⟩ hA0 (f := 225) (i := 0) (k := 0) (by decide)).mo (fun q hq => by omega))
