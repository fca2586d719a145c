/-! ===== the class: sorting, how far a set can weigh, the set for a sale ===== -/
theorem p10 {n : Nat} (h : n ≤ 10) : (2 : Nat) ^ n ≤ 1024 := Nat.pow_le_pow_right (j := 10) (by decide) h
def lex (σ : Nat → Int32) (a b : Nat) : Prop := σ (14 + 4 * a + 2) < σ (14 + 4 * b + 2) ∨ (σ (14 + 4 * a + 2) = σ (14 + 4 * b + 2) ∧ a < b)
def SRT (σ : Nat → Int32) (o : Nat → Nat) (k : Nat) : Prop := (∀ j, j < k → o j < k) ∧ (∀ b, b < k → ∃ j, j < k ∧ o j = b) ∧ ∀ i j, i < j → j < k → lex σ (o i) (o j)
def insO (o : Nat → Nat) (k p : Nat) : Nat → Nat := fun j => if j < p then o j else if j = p then k else o (j - 1)
theorem SRT.ins {σ : Nat → Int32} {o : Nat → Nat} {k p : Nat} (h : SRT σ o k) (hp : p ≤ k) (hlo : p = 0 ∨ σ (14 + 4 * (o (p - 1)) + 2) ≤ σ (14 + 4 * k + 2)) (hhi : ∀ j, p ≤ j → j < k → σ (14 + 4 * k + 2) < σ (14 + 4 * (o j) + 2)) : SRT σ (insO o k p) (k + 1) := by
  have i1 : ∀ j, j < p → insO o k p j = o j := fun j hj => by unfold insO; rw [if_pos hj]
  have i2 : insO o k p p = k := by unfold insO; rw [if_neg (by omega), if_pos rfl]
  have i3 : ∀ j, p < j → insO o k p j = o (j - 1) := fun j hj => by unfold insO; rw [if_neg (by omega), if_neg (by omega)]
  refine ⟨fun j hj => ?_, fun b hb => ?_, fun i j hij hj => ?_⟩
  · rcases Nat.lt_trichotomy j p with q | q | q
    · rw [i1 j q]; have := h.1 j (by omega); omega
    · rw [q, i2]; omega
    · rw [i3 j q]; have := h.1 (j - 1) (by omega); omega
  · by_cases e : b = k
    · exact ⟨p, by omega, by rw [i2, e]⟩
    · obtain ⟨j, hj, e2⟩ := h.2.1 b (by omega)
      rcases Nat.lt_or_ge j p with q | q
      · exact ⟨j, by omega, by rw [i1 j q]; exact e2⟩
      · exact ⟨j + 1, by omega, by rw [i3 (j + 1) (by omega)]; exact e2⟩
  · rcases Nat.lt_trichotomy j p with q | q | q
    · rw [i1 j q, i1 i (by omega)]; exact h.2.2 i j hij (by omega)
    · subst q
      rw [i1 i hij, i2]
      have l1 := hlo.resolve_left (by omega)
      have l2 := h.1 i (by omega)
      have l3 : σ (14 + 4 * (o i) + 2) ≤ σ (14 + 4 * (o (j - 1)) + 2) := by
        by_cases e : i = j - 1
        · rw [e]; exact (fa_le _ _).mpr (Int.le_refl _)
        · have q := h.2.2 i (j - 1) (by omega) (by omega)
          unfold lex at q
          simp only [fa_lt, fa_le, fa_eq] at *
          omega
      unfold lex
      simp only [fa_lt, fa_le, fa_eq] at *
      omega
    · rw [i3 j q]
      rcases Nat.lt_trichotomy i p with w | w | w
      · rw [i1 i w]; exact h.2.2 i (j - 1) (by omega) (by omega)
      · rw [w, i2]; exact Or.inl (hhi (j - 1) (by omega) (by omega))
      · rw [i3 i w]; exact h.2.2 (i - 1) (j - 1) (by omega) (by omega)
set_option maxRecDepth 100000 in
set_option maxHeartbeats 1000000 in
theorem w_sort_64 {x : pX} {d : Nat} {S : pS} {b : Nat × Nat} {Q : pS → Prop} {S0 : pS} {ad : Nat → Nat} {σ : Nat → Int32} {n k : Nat} {o : Nat → Nat} (hn10 : n ≤ 10) (hk : k < n) (ho : SRT σ o k) {p : Nat} (hp : p ≤ k) (hF : wfr ad S0 S) (hS : WS S ad) (hW : WR S ad σ) (hlo : ∀ j, j < p → gX S (ad 8) j = nI (o j)) (hhi : ∀ j, p ≤ j → j < k → gX S (ad 8) (j + 1) = nI (o j) ∧ σ (14 + 4 * k + 2) < σ (14 + 4 * (o j) + 2)) (hc : p = 0 ∨ σ (14 + 4 * (o (p - 1)) + 2) ≤ σ (14 + 4 * k + 2)) (kk : ∀ S2 o2, wfr ad S0 S2 → WR S2 ad σ → SRT σ o2 (k + 1) → (∀ j, j < k + 1 → gX S2 (ad 8) j = nI (o2 j)) → V x (d + 1) M_X7_sortByGrains (qv Q) b 2 [(0, .ref ((ad 0))), (1, .int (nI (k + 1)))] [] S2)  : V x (d + 1) M_X7_sortByGrains (qv Q) b 64 [(0, .ref ((ad 0))), (1, .int (nI k)), (2, .int (nI p))] [] S := by
  refine V_aln (pc := 64) dX7_sortByGrains_64 rfl rfl ?_
  refine V_gr (pc := 65) 7 11 235 dX7_sortByGrains_65 (FL_X7_47 rfl) rfl rfl (hS.k 0 (by decide) rfl) hS.2.2.1.2.2.2.2.2.2.1 ?_
  refine V_iln (pc := 68) dX7_sortByGrains_68 rfl rfl ?_
  refine V_iln (pc := 69) dX7_sortByGrains_69 rfl rfl ?_
  refine V_ias (pc := 70) (N := 10) p dX7_sortByGrains_70 (hS.k 8 (by decide) rfl) (hS.2.1 8 (by decide)) (by decide) rfl (by show (_ : Nat) < 10; omega) ?_
  refine V_inc (pc := 71) (fun y => [(0, .ref ((ad 0))), (1, .int y), (2, .int (nI p))]) (w := 1) dX7_sortByGrains_71 (by decide) (by decide) rfl (fun _ => rfl) (fun y71 ey71 => ?_)
  obtain rfl : y71 = nI (k + 1) := by rw [ey71]; exact nI_1 _
  refine V_goto (pc := 74) (t := 2) dX7_sortByGrains_74 (by decide) ?_
  refine V_lp [0, 1] (ls' := [(0, .ref ((ad 0))), (1, .int (nI (k + 1)))]) rfl ?_
  refine kk _ (insO o k p) (hF.X (i := 8) (by decide) (by decide) (by decide) (upd (gX S (ad 8)) p (nI k))) (hW.ord hS (upd (gX S (ad 8)) p (nI k))) (ho.ins hp hc (fun j h1 h2 => (hhi j h1 h2).2)) (fun j hj => ?_)
  rw [gX_sX, if_pos rfl]
  unfold insO
  rcases Nat.lt_trichotomy j p with q | q | q
  · rw [pk_un (by omega), if_pos q]; exact hlo j q
  · subst q; rw [pk_us, if_neg (by omega), if_pos rfl]
  · rw [pk_un (by omega), if_neg (by omega), if_neg (by omega)]
    have w := (hhi (j - 1) (by omega) (by omega)).1
    rw [show j - 1 + 1 = j by omega] at w
    exact w
set_option maxRecDepth 100000 in
set_option maxHeartbeats 1000000 in
theorem w_sort_I {x : pX} {d : Nat} {b : Nat × Nat} {Q : pS → Prop} {S0 : pS} {ad : Nat → Nat} {σ : Nat → Int32} {n k : Nat} {o : Nat → Nat} (hn10 : n ≤ 10) (hk : k < n) (ho : SRT σ o k) (kk : ∀ S2 o2, wfr ad S0 S2 → WR S2 ad σ → SRT σ o2 (k + 1) → (∀ j, j < k + 1 → gX S2 (ad 8) j = nI (o2 j)) → V x (d + 1) M_X7_sortByGrains (qv Q) b 2 [(0, .ref ((ad 0))), (1, .int (nI (k + 1)))] [] S2) : ∀ (p : Nat), p ≤ k → ∀ (S : pS), wfr ad S0 S → WS S ad → WR S ad σ → (∀ j, j < p → gX S (ad 8) j = nI (o j)) → (∀ j, p ≤ j → j < k → gX S (ad 8) (j + 1) = nI (o j) ∧ σ (14 + 4 * k + 2) < σ (14 + 4 * (o j) + 2)) → V x (d + 1) M_X7_sortByGrains (qv Q) b 12 [(0, .ref ((ad 0))), (1, .int (nI k)), (2, .int (nI p))] [] S := by
  intro p
  induction p with
  | zero =>
    intro hp S hF hS hW hlo hhi
    refine V_iln (pc := 12) dX7_sortByGrains_12 rfl rfl ?_
    refine V_le (pc := 13) (t := 64) dX7_sortByGrains_13 (by decide) (fun h13 => ?_) (fun h13 => ?_)
    · exact w_sort_64 hn10 hk ho (Nat.zero_le _) hF hS hW hlo hhi (Or.inl rfl) kk
    · exact absurd (by decide) h13
  | succ p ih =>
    intro hp S hF hS hW hlo hhi
    have hop := ho.1 p (by omega)
    refine V_iln (pc := 12) dX7_sortByGrains_12 rfl rfl ?_
    refine V_le (pc := 13) (t := 64) dX7_sortByGrains_13 (by decide) (fun h13 => ?_) (fun h13 => ?_)
    · exact absurd h13 (by rw [show (0 : Int32) = nI 0 from rfl]; exact nI_ge (by omega) (by omega))
    · refine V_aln (pc := 16) dX7_sortByGrains_16 rfl rfl ?_
      refine V_gr (pc := 17) 7 0 224 dX7_sortByGrains_17 (FL_X7_11 rfl) rfl rfl (hS.k 0 (by decide) rfl) hS.2.2.1.1 ?_
      refine V_aln (pc := 20) dX7_sortByGrains_20 rfl rfl ?_
      refine V_gr (pc := 21) 7 11 235 dX7_sortByGrains_21 (FL_X7_47 rfl) rfl rfl (hS.k 0 (by decide) rfl) hS.2.2.1.2.2.2.2.2.2.1 ?_
      refine V_iln (pc := 24) dX7_sortByGrains_24 rfl rfl ?_
      refine V_iconst (pc := 25) (v := 1) dX7_sortByGrains_25 (by decide) ?_
      refine V_isub (pc := 26) dX7_sortByGrains_26 ?_
      refine V_iae (pc := 27) (N := 10) p dX7_sortByGrains_27 (hS.k 8 (by decide) rfl) (hS.2.1 8 (by decide)) (by decide) (by rw [show (1 : Int32) = nI 1 from rfl, nI_sub (by omega)]; rfl) (by omega) (hlo p (by omega)) ?_
      refine V_aa (pc := 28) (N := 10) 14 (o p) dX7_sortByGrains_28 (by decide) (by decide) (hS.k 1 (by decide) rfl) (hS.2.1 1 (by decide)) (by decide) rfl (by show (_ : Nat) < 10; omega) (hS.2.2.2.1 (o p) (by omega)) ?_
      refine V_gie (pc := 29) 6 2 194 dX7_sortByGrains_29 (FL_X7_109 rfl) rfl rfl (hS.w (by omega)) (hW.1 194 (10 + (o p)) (14 + 4 * (o p) + 2) (by unfold cI; omega)) ?_
      refine V_aln (pc := 32) dX7_sortByGrains_32 rfl rfl ?_
      refine V_gr (pc := 33) 7 0 224 dX7_sortByGrains_33 (FL_X7_11 rfl) rfl rfl (hS.k 0 (by decide) rfl) hS.2.2.1.1 ?_
      refine V_iln (pc := 36) dX7_sortByGrains_36 rfl rfl ?_
      refine V_aa (pc := 37) (N := 10) 14 k dX7_sortByGrains_37 (by decide) (by decide) (hS.k 1 (by decide) rfl) (hS.2.1 1 (by decide)) (by decide) rfl (by show (_ : Nat) < 10; omega) (hS.2.2.2.1 k (by omega)) ?_
      refine V_gie (pc := 38) 6 2 194 dX7_sortByGrains_38 (FL_X7_109 rfl) rfl rfl (hS.w (by omega)) (hW.1 194 (10 + k) (14 + 4 * k + 2) (by unfold cI; omega)) ?_
      refine V_cle (pc := 41) (t := 64) dX7_sortByGrains_41 (by decide) (fun h41 => ?_) (fun h41 => ?_)
      · exact w_sort_64 hn10 hk ho hp hF hS hW hlo hhi (Or.inr h41) kk
      · refine V_aln (pc := 44) dX7_sortByGrains_44 rfl rfl ?_
        refine V_gr (pc := 45) 7 11 235 dX7_sortByGrains_45 (FL_X7_47 rfl) rfl rfl (hS.k 0 (by decide) rfl) hS.2.2.1.2.2.2.2.2.2.1 ?_
        refine V_iln (pc := 48) dX7_sortByGrains_48 rfl rfl ?_
        refine V_aln (pc := 49) dX7_sortByGrains_49 rfl rfl ?_
        refine V_gr (pc := 50) 7 11 235 dX7_sortByGrains_50 (FL_X7_47 rfl) rfl rfl (hS.k 0 (by decide) rfl) hS.2.2.1.2.2.2.2.2.2.1 ?_
        refine V_iln (pc := 53) dX7_sortByGrains_53 rfl rfl ?_
        refine V_iconst (pc := 54) (v := 1) dX7_sortByGrains_54 (by decide) ?_
        refine V_isub (pc := 55) dX7_sortByGrains_55 ?_
        refine V_iae (pc := 56) (N := 10) p dX7_sortByGrains_56 (hS.k 8 (by decide) rfl) (hS.2.1 8 (by decide)) (by decide) (by rw [show (1 : Int32) = nI 1 from rfl, nI_sub (by omega)]; rfl) (by omega) (hlo p (by omega)) ?_
        refine V_ias (pc := 57) (N := 10) (p + 1) dX7_sortByGrains_57 (hS.k 8 (by decide) rfl) (hS.2.1 8 (by decide)) (by decide) rfl (by show (_ : Nat) < 10; omega) ?_
        have hW2 := hW.ord hS (upd (gX S (ad 8)) (p + 1) (nI (o p)))
        have hF2 := hF.X (i := 8) (by decide) (by decide) (by decide) (upd (gX S (ad 8)) (p + 1) (nI (o p)))
        refine V_inc (pc := 58) (fun y => [(0, .ref ((ad 0))), (1, .int (nI k)), (2, .int y)]) (w := (-1)) dX7_sortByGrains_58 (by decide) (by decide) rfl (fun _ => rfl) (fun y58 ey58 => ?_)
        obtain rfl : y58 = nI p := by rw [ey58]; rw [show (-1 : Int32) = -(nI 1) from rfl, ← Int32.sub_eq_add_neg]; exact nI_sub (by omega)
        refine V_goto (pc := 61) (t := 12) dX7_sortByGrains_61 (by decide) ?_
        refine ih (by omega) _ hF2 (show WS (sX S (ad 8) _) ad from hS) hW2 (fun j hj => ?_) (fun j hj hj2 => ?_)
        · rw [gX_sX, if_pos rfl, pk_un (by omega)]; exact hlo j (by omega)
        · rw [gX_sX, if_pos rfl]
          by_cases e : j = p
          · subst e; rw [pk_us]; exact ⟨rfl, Int32.not_le.mp h41⟩
          · rw [pk_un (by omega)]; exact hhi j (by omega) hj2
set_option maxRecDepth 100000 in
set_option maxHeartbeats 1000000 in
theorem w_sort_L {x : pX} {d : Nat} {b : Nat × Nat} {Q : pS → Prop} {S0 : pS} {ad : Nat → Nat} {σ : Nat → Int32} {n : Nat} (hS0 : WS S0 ad) (hn : σ 0 = nI n) (hn10 : n ≤ 10) (h : ∀ S2 o, wfr ad S0 S2 → WR S2 ad σ → SRT σ o n → (∀ j, j < n → gX S2 (ad 8) j = nI (o j)) → Q S2) : ∀ (c k : Nat), k + c = n → ∀ (S : pS) (o : Nat → Nat), wfr ad S0 S → WS S ad → WR S ad σ → SRT σ o k → (∀ j, j < k → gX S (ad 8) j = nI (o j)) → V x (d + 1) M_X7_sortByGrains (qv Q) b 2 [(0, .ref ((ad 0))), (1, .int (nI k))] [] S := by
  intro c
  induction c with
  | zero =>
    intro k hk S o hF hS hW ho hg
    refine V_iln (pc := 2) dX7_sortByGrains_2 rfl rfl ?_
    refine V_aln (pc := 3) dX7_sortByGrains_3 rfl rfl ?_
    refine V_gie (pc := 4) 7 1 225 dX7_sortByGrains_4 (FL_X7_56 rfl) rfl rfl (hS.k 0 (by decide) rfl) (hW.1 225 0 0 (by decide)) ?_
    refine V_cge (pc := 7) (t := 77) dX7_sortByGrains_7 (by decide) (fun h7 => ?_) (fun h7 => ?_)
    · refine V_ret (pc := 77) dX7_sortByGrains_77 rfl ?_
      obtain rfl : k = n := by omega
      exact h S o hF hW ho hg
    · exact absurd (by rw [hn]; exact nI_le (by omega) (by omega)) h7
  | succ c ih =>
    intro k hk S o hF hS hW ho hg
    refine V_iln (pc := 2) dX7_sortByGrains_2 rfl rfl ?_
    refine V_aln (pc := 3) dX7_sortByGrains_3 rfl rfl ?_
    refine V_gie (pc := 4) 7 1 225 dX7_sortByGrains_4 (FL_X7_56 rfl) rfl rfl (hS.k 0 (by decide) rfl) (hW.1 225 0 0 (by decide)) ?_
    refine V_cge (pc := 7) (t := 77) dX7_sortByGrains_7 (by decide) (fun h7 => ?_) (fun h7 => ?_)
    · exact absurd h7 (by rw [hn]; exact nI_ge (by omega) (by omega))
    · refine V_iln (pc := 10) dX7_sortByGrains_10 rfl rfl ?_
      refine V_isn (pc := 11) (fun y => [(0, .ref ((ad 0))), (1, .int (nI k)), (2, .int y)]) dX7_sortByGrains_11 rfl (by decide) (fun _ => rfl) (fun y11 ey11 => ?_)
      subst ey11
      exact w_sort_I hn10 (by omega) ho (fun S2 o2 f2 W2 s2 g2 => ih (k + 1) (by omega) S2 o2 f2 (hS0.f f2) W2 s2 g2) k (Nat.le_refl _) S hF hS hW hg (fun j h1 h2 => absurd h1 (by omega))
set_option maxRecDepth 100000 in
set_option maxHeartbeats 1000000 in
theorem w_sort {x : pX} {d : Nat} {S : pS} {Q : pS → Prop} {ad : Nat → Nat} {σ : Nat → Int32} (hS : WS S ad) (hW : WR S ad σ) {n : Nat} (hn : σ 0 = nI n) (hn10 : n ≤ 10) (h : ∀ S2 o, wfr ad S S2 → WR S2 ad σ → SRT σ o n → (∀ j, j < n → gX S2 (ad 8) j = nI (o j)) → Q S2) : PV x (d + 1) M_X7_sortByGrains [.ref ((ad 0))] S Q := by
  refine PM_of (by decide +kernel) (Nat.le_of_ble_eq_true rfl) ?_
  show V x (d + 1) M_X7_sortByGrains (qv Q) (0, 0) 0 [(0, .ref ((ad 0)))] [] S
  refine V_iconst (pc := 0) (v := 0) dX7_sortByGrains_0 (by decide) ?_
  refine V_isn (pc := 1) (fun y => [(0, .ref ((ad 0))), (1, .int y)]) dX7_sortByGrains_1 rfl (by decide) (fun _ => rfl) (fun y1 ey1 => ?_)
  obtain rfl : y1 = nI 0 := ey1
  exact w_sort_L hS hn hn10 h n 0 (by omega) S (fun j => j) wfr.rf hS hW ⟨fun j hj => absurd hj (by omega), fun b hb => absurd hb (by omega), fun i j h1 h2 => absurd h2 (by omega)⟩ (fun j hj => absurd hj (by omega))
def rch (σ : Nat → Int32) (o : Nat → Nat) (L : Nat) : Nat → Nat → Int32 → Int32
  | 0, _, r => r
  | c + 1, k, r => if L.testBit (o k) = true then (if r + 1 < σ (14 + 4 * (o k) + 2) then r else rch σ o L c (k + 1) (r + σ (14 + 4 * (o k) + 2))) else rch σ o L c (k + 1) r
set_option maxRecDepth 100000 in
set_option maxHeartbeats 1000000 in
theorem w_reach_L {x : pX} {d : Nat} {S : pS} {b : Nat × Nat} {Q : Int32 → pS → Prop} {ad : Nat → Nat} {σ : Nat → Int32} (hS : WS S ad) (hW : WR S ad σ) {n : Nat} (hn : σ 0 = nI n) (hn10 : n ≤ 10) {o : Nat → Nat} {L : Nat} (hL : L < 1024) (ho : SRT σ o n) (hg : ∀ j, j < n → gX S (ad 8) j = nI (o j)) : ∀ (c k : Nat), k + c = n → ∀ (r : Int32), Q (rch σ o L c k r) S → V x (d + 1) M_X7_reachOf (qi Q) b 4 [(0, .ref ((ad 0))), (1, .int (nI L)), (2, .int r), (3, .int (nI k))] [] S := by
  intro c
  induction c with
  | zero =>
    intro k hk r h
    refine V_iln (pc := 4) dX7_reachOf_4 rfl rfl ?_
    refine V_aln (pc := 5) dX7_reachOf_5 rfl rfl ?_
    refine V_gie (pc := 6) 7 1 225 dX7_reachOf_6 (FL_X7_56 rfl) rfl rfl (hS.k 0 (by decide) rfl) (hW.1 225 0 0 (by decide)) ?_
    refine V_cge (pc := 9) (t := 66) dX7_reachOf_9 (by decide) (fun h9 => ?_) (fun h9 => ?_)
    · refine V_iln (pc := 66) dX7_reachOf_66 rfl rfl ?_
      refine V_iret (pc := 67) dX7_reachOf_67 rfl rfl ?_
      exact h
    · exact absurd (by rw [hn]; exact nI_le (by omega) (by omega)) h9
  | succ c ih =>
    intro k hk r h
    have hok := ho.1 k (by omega)
    refine V_iln (pc := 4) dX7_reachOf_4 rfl rfl ?_
    refine V_aln (pc := 5) dX7_reachOf_5 rfl rfl ?_
    refine V_gie (pc := 6) 7 1 225 dX7_reachOf_6 (FL_X7_56 rfl) rfl rfl (hS.k 0 (by decide) rfl) (hW.1 225 0 0 (by decide)) ?_
    refine V_cge (pc := 9) (t := 66) dX7_reachOf_9 (by decide) (fun h9 => ?_) (fun h9 => ?_)
    · exact absurd h9 (by rw [hn]; exact nI_ge (by omega) (by omega))
    · refine V_aln (pc := 12) dX7_reachOf_12 rfl rfl ?_
      refine V_gr (pc := 13) 7 11 235 dX7_reachOf_13 (FL_X7_47 rfl) rfl rfl (hS.k 0 (by decide) rfl) hS.2.2.1.2.2.2.2.2.2.1 ?_
      refine V_iln (pc := 16) dX7_reachOf_16 rfl rfl ?_
      refine V_iae (pc := 17) (N := 10) k dX7_reachOf_17 (hS.k 8 (by decide) rfl) (hS.2.1 8 (by decide)) (by decide) rfl (by omega) (hg k (by omega)) ?_
      refine V_is (pc := 18) (fun y => [(0, .ref ((ad 0))), (1, .int (nI L)), (2, .int r), (3, .int (nI k)), (4, .int y)]) dX7_reachOf_18 (by decide) (fun _ => rfl) (fun y18 ey18 => ?_)
      subst ey18
      refine V_iln (pc := 20) dX7_reachOf_20 rfl rfl ?_
      refine V_il (pc := 21) dX7_reachOf_21 rfl ?_
      refine V_ishr (pc := 23) dX7_reachOf_23 ?_
      refine V_iconst (pc := 24) (v := 1) dX7_reachOf_24 (by decide) ?_
      refine V_iand (pc := 25) dX7_reachOf_25 ?_
      refine V_eq (pc := 26) (t := 60) dX7_reachOf_26 (by decide) (fun h26 => ?_) (fun h26 => ?_)
      · have nb : ¬ L.testBit (o k) = true := fun w => absurd (((sb_bit (by omega) (by omega)).mpr w).symm.trans h26) (by decide)
        have e1 : rch σ o L (c + 1) k r = rch σ o L c (k + 1) r := by show (if L.testBit (o k) = true then (if r + 1 < σ (14 + 4 * (o k) + 2) then r else rch σ o L c (k + 1) (r + σ (14 + 4 * (o k) + 2))) else rch σ o L c (k + 1) r) = _; rw [if_neg nb]
        rw [e1] at h
        refine V_inc (pc := 60) (fun y => [(0, .ref ((ad 0))), (1, .int (nI L)), (2, .int r), (3, .int y), (4, .int (nI (o k)))]) (w := 1) dX7_reachOf_60 (by decide) (by decide) rfl (fun _ => rfl) (fun y60 ey60 => ?_)
        obtain rfl : y60 = nI (k + 1) := by rw [ey60]; exact nI_1 _
        refine V_goto (pc := 63) (t := 4) dX7_reachOf_63 (by decide) ?_
        refine V_lp [0, 1, 2, 3] (ls' := [(0, .ref ((ad 0))), (1, .int (nI L)), (2, .int r), (3, .int (nI (k + 1)))]) rfl ?_
        exact ih (k + 1) (by omega) r h
      · have yb : L.testBit (o k) = true := (sb_bit (by omega) (by omega)).mp ((and_one _).resolve_left h26)
        refine V_aln (pc := 29) dX7_reachOf_29 rfl rfl ?_
        refine V_gr (pc := 30) 7 0 224 dX7_reachOf_30 (FL_X7_11 rfl) rfl rfl (hS.k 0 (by decide) rfl) hS.2.2.1.1 ?_
        refine V_il (pc := 33) dX7_reachOf_33 rfl ?_
        refine V_aa (pc := 35) (N := 10) 14 (o k) dX7_reachOf_35 (by decide) (by decide) (hS.k 1 (by decide) rfl) (hS.2.1 1 (by decide)) (by decide) rfl (by show (_ : Nat) < 10; omega) (hS.2.2.2.1 (o k) (by omega)) ?_
        refine V_gie (pc := 36) 6 2 194 dX7_reachOf_36 (FL_X7_109 rfl) rfl rfl (hS.w (by omega)) (hW.1 194 (10 + (o k)) (14 + 4 * (o k) + 2) (by unfold cI; omega)) ?_
        refine V_iln (pc := 39) dX7_reachOf_39 rfl rfl ?_
        refine V_iconst (pc := 40) (v := 1) dX7_reachOf_40 (by decide) ?_
        refine V_iadd (pc := 41) dX7_reachOf_41 ?_
        refine V_cle (pc := 42) (t := 47) dX7_reachOf_42 (by decide) (fun h42 => ?_) (fun h42 => ?_)
        · have e1 : rch σ o L (c + 1) k r = rch σ o L c (k + 1) (r + σ (14 + 4 * (o k) + 2)) := by show (if L.testBit (o k) = true then (if r + 1 < σ (14 + 4 * (o k) + 2) then r else rch σ o L c (k + 1) (r + σ (14 + 4 * (o k) + 2))) else rch σ o L c (k + 1) r) = _; rw [if_pos yb, if_neg (Int32.not_lt.mpr h42)]
          rw [e1] at h
          refine V_iln (pc := 47) dX7_reachOf_47 rfl rfl ?_
          refine V_aln (pc := 48) dX7_reachOf_48 rfl rfl ?_
          refine V_gr (pc := 49) 7 0 224 dX7_reachOf_49 (FL_X7_11 rfl) rfl rfl (hS.k 0 (by decide) rfl) hS.2.2.1.1 ?_
          refine V_il (pc := 52) dX7_reachOf_52 rfl ?_
          refine V_aa (pc := 54) (N := 10) 14 (o k) dX7_reachOf_54 (by decide) (by decide) (hS.k 1 (by decide) rfl) (hS.2.1 1 (by decide)) (by decide) rfl (by show (_ : Nat) < 10; omega) (hS.2.2.2.1 (o k) (by omega)) ?_
          refine V_gie (pc := 55) 6 2 194 dX7_reachOf_55 (FL_X7_109 rfl) rfl rfl (hS.w (by omega)) (hW.1 194 (10 + (o k)) (14 + 4 * (o k) + 2) (by unfold cI; omega)) ?_
          refine V_iadd (pc := 58) dX7_reachOf_58 ?_
          refine V_isn (pc := 59) (fun y => [(0, .ref ((ad 0))), (1, .int (nI L)), (2, .int y), (3, .int (nI k)), (4, .int (nI (o k)))]) dX7_reachOf_59 rfl (by decide) (fun _ => rfl) (fun y59 ey59 => ?_)
          refine V_inc (pc := 60) (fun y => [(0, .ref ((ad 0))), (1, .int (nI L)), (2, .int y59), (3, .int y), (4, .int (nI (o k)))]) (w := 1) dX7_reachOf_60 (by decide) (by decide) rfl (fun _ => rfl) (fun y60 ey60 => ?_)
          obtain rfl : y60 = nI (k + 1) := by rw [ey60]; exact nI_1 _
          refine V_goto (pc := 63) (t := 4) dX7_reachOf_63 (by decide) ?_
          refine V_lp [0, 1, 2, 3] (ls' := [(0, .ref ((ad 0))), (1, .int (nI L)), (2, .int y59), (3, .int (nI (k + 1)))]) rfl ?_
          exact ih (k + 1) (by omega) y59 (by rw [ey59]; exact h)
        · have e1 : rch σ o L (c + 1) k r = r := by show (if L.testBit (o k) = true then (if r + 1 < σ (14 + 4 * (o k) + 2) then r else rch σ o L c (k + 1) (r + σ (14 + 4 * (o k) + 2))) else rch σ o L c (k + 1) r) = _; rw [if_pos yb, if_pos (Int32.not_le.mp h42)]
          rw [e1] at h
          refine V_iln (pc := 45) dX7_reachOf_45 rfl rfl ?_
          refine V_iret (pc := 46) dX7_reachOf_46 rfl rfl ?_
          exact h
set_option maxRecDepth 100000 in
set_option maxHeartbeats 1000000 in
theorem w_reachOf {x : pX} {d : Nat} {S : pS} {Q : Int32 → pS → Prop} {ad : Nat → Nat} {σ : Nat → Int32} (hS : WS S ad) (hW : WR S ad σ) {n : Nat} (hn : σ 0 = nI n) (hn10 : n ≤ 10) {o : Nat → Nat} {L : Nat} (hL : L < 1024) (ho : SRT σ o n) (hg : ∀ j, j < n → gX S (ad 8) j = nI (o j)) (h : Q (rch σ o L n 0 0) S) : PI x (d + 1) M_X7_reachOf [.ref ((ad 0)), .int (nI L)] S Q := by
  refine PM_of (by decide +kernel) (Nat.le_of_ble_eq_true rfl) ?_
  show V x (d + 1) M_X7_reachOf (qi Q) (0, 0) 0 [(0, .ref ((ad 0))), (1, .int (nI L))] [] S
  refine V_iconst (pc := 0) (v := 0) dX7_reachOf_0 (by decide) ?_
  refine V_isn (pc := 1) (fun y => [(0, .ref ((ad 0))), (1, .int (nI L)), (2, .int y)]) dX7_reachOf_1 rfl (by decide) (fun _ => rfl) (fun y1 ey1 => ?_)
  refine V_iconst (pc := 2) (v := 0) dX7_reachOf_2 (by decide) ?_
  refine V_isn (pc := 3) (fun y => [(0, .ref ((ad 0))), (1, .int (nI L)), (2, .int y1), (3, .int y)]) dX7_reachOf_3 rfl (by decide) (fun _ => rfl) (fun y3 ey3 => ?_)
  obtain rfl : y3 = nI 0 := ey3
  subst ey1
  exact w_reach_L hS hW hn hn10 hL ho hg n 0 (by omega) 0 h
theorem sub_bit : ∀ j, j < 10 → ∀ M, M < 1024 → M.testBit j = true → ∀ b, b < 10 → (M - 2 ^ j).testBit b = (M.testBit b && !(b == j)) := by decide +kernel
theorem fbst_min {σ : Nat → Int32} {M a n : Nat} (ha : M.testBit a = true) (hm : ∀ b, b < n → M.testBit b = true → b ≠ a → lex σ a b) : ∀ k, k ≤ n → a < k → fbst σ M k = some a
  | 0, _, h => absurd h (by omega)
  | k + 1, hk, h => by
    unfold fbst
    by_cases e : a = k
    · subst e
      cases q : fbst σ M a with
      | none => simp only [ha, if_true]
      | some j =>
        obtain ⟨hj, hb⟩ := fbst_mem σ M a j q
        have l := hm j (by omega) hb (by omega)
        have l2 : σ (14 + 4 * a + 2) < σ (14 + 4 * j + 2) := l.resolve_right (fun w => by omega)
        show (if M.testBit a = true ∧ σ (14 + 4 * a + 2) < σ (14 + 4 * j + 2) then some a else some j) = some a
        rw [if_pos ⟨ha, l2⟩]
    · rw [fbst_min ha hm k (by omega) (by omega)]
      show (if M.testBit k = true ∧ σ (14 + 4 * k + 2) < σ (14 + 4 * a + 2) then some k else some a) = some a
      rw [if_neg]
      rintro ⟨w1, w2⟩
      have l := hm k (by omega) w1 (by omega)
      unfold lex at l
      simp only [fa_lt, fa_eq] at *
      omega
theorem rch_can {σ : Nat → Int32} {o : Nat → Nat} {n L : Nat} (hn10 : n ≤ 10) (ho : SRT σ o n) : ∀ c k f M r, k + c = n → M < f → M < 2 ^ n → (∀ b, b < n → (M.testBit b = true ↔ (L.testBit b = true ∧ ∃ j, k ≤ j ∧ j < n ∧ o j = b))) → fcan σ n f M r = rch σ o L c k r
  | c, k, 0, M, r, _, h, _, _ => absurd h (by omega)
  | 0, k, f + 1, M, r, hk, hf, hM, hb => by
    have e : M = 0 := by
      rcases Nat.eq_zero_or_pos M with q | q
      · exact q
      · obtain ⟨j, -, hj, hjb⟩ := fbst_some (σ := σ) (show M ≠ 0 by omega) hM
        obtain ⟨-, i, h1, h2, -⟩ := (hb j hj).mp hjb
        omega
    subst e
    show (if (0 : Nat) = 0 then r else _) = r
    rw [if_pos rfl]
  | c + 1, k, f + 1, M, r, hk, hf, hM, hb => by
    have hok := ho.1 k (by omega)
    have h1024 : (2 : Nat) ^ n ≤ 1024 := p10 hn10
    show _ = (if L.testBit (o k) = true then (if r + 1 < σ (14 + 4 * (o k) + 2) then r else rch σ o L c (k + 1) (r + σ (14 + 4 * (o k) + 2))) else rch σ o L c (k + 1) r)
    by_cases yb : L.testBit (o k) = true
    · rw [if_pos yb]
      have mb : M.testBit (o k) = true := (hb (o k) hok).mpr ⟨yb, k, Nat.le_refl _, by omega, rfl⟩
      have le := bit_le mb
      have pp : 0 < 2 ^ (o k) := Nat.two_pow_pos _
      have em := fbst_min (n := n) mb (fun b h1 h2 h3 => by
        obtain ⟨-, j, j1, j2, j3⟩ := (hb b h1).mp h2
        rw [← j3]
        have : j ≠ k := fun w => h3 (by rw [← j3, w])
        exact ho.2.2 k j (by omega) j2) n (Nat.le_refl _) hok
      have e0 : fcan σ n (f + 1) M r = if r + 1 < σ (14 + 4 * (o k) + 2) then r else fcan σ n f (M - 2 ^ (o k)) (r + σ (14 + 4 * (o k) + 2)) := by
        show (if M = 0 then r else match fbst σ M n with
          | none => r
          | some j => if r + 1 < σ (14 + 4 * j + 2) then r else fcan σ n f (M - 2 ^ j) (r + σ (14 + 4 * j + 2))) = _
        rw [if_neg (by omega), em]
      rw [e0]
      by_cases q : r + 1 < σ (14 + 4 * (o k) + 2)
      · rw [if_pos q, if_pos q]
      · rw [if_neg q, if_neg q]
        refine rch_can hn10 ho c (k + 1) f _ _ (by omega) (by omega) (by omega) (fun b h1 => ?_)
        rw [sub_bit (o k) (by omega) M (by omega) mb b (by omega)]
        constructor
        · intro w
          have w1 : M.testBit b = true ∧ b ≠ o k := by simpa using w
          obtain ⟨u, j, j1, j2, j3⟩ := (hb b h1).mp w1.1
          have : j ≠ k := fun w => w1.2 (by rw [← j3, w])
          exact ⟨u, j, by omega, j2, j3⟩
        · rintro ⟨u, j, j1, j2, j3⟩
          have u1 := (hb b h1).mpr ⟨u, j, by omega, j2, j3⟩
          have u2 : b ≠ o k := fun w => by
            have l := ho.2.2 k j (by omega) j2
            rw [j3, w] at l
            unfold lex at l
            simp only [fa_lt] at l
            omega
          simp [u1, u2]
    · rw [if_neg yb]
      refine rch_can hn10 ho c (k + 1) (f + 1) M r (by omega) hf hM (fun b h1 => ?_)
      rw [hb b h1]
      constructor
      · rintro ⟨u, j, j1, j2, j3⟩
        have : j ≠ k := fun w => yb (by rw [← w, j3]; exact u)
        exact ⟨u, j, by omega, j2, j3⟩
      · rintro ⟨u, j, j1, j2, j3⟩
        exact ⟨u, j, by omega, j2, j3⟩
theorem rch_eq {σ : Nat → Int32} {o : Nat → Nat} {n L : Nat} (hn10 : n ≤ 10) (ho : SRT σ o n) (hL : L < 2 ^ n) : rch σ o L n 0 0 = fcan σ n 1024 L 0 := by
  have h1024 : (2 : Nat) ^ n ≤ 1024 := p10 hn10
  exact (rch_can hn10 ho n 0 1024 L 0 (by omega) (by omega) hL (fun b hb => ⟨fun w => ⟨w, by obtain ⟨j, h1, h2⟩ := ho.2.1 b hb; exact ⟨j, Nat.zero_le _, h1, h2⟩⟩, fun w => w.1⟩)).symm
def bz : Option Nat → Int32
  | none => 0
  | some j => nI j
theorem fgn_pos (σ : Nat → Int32) (n : Nat) (g : Int32) : ∀ k j, (fgn σ n g k).1 = some j → 0 < j
  | 0, j, h => by cases h
  | k + 1, j, h => by
    unfold fgn at h
    split at h
    · cases h; omega
    · exact fgn_pos σ n g k j h
theorem bz_0 {o : Option Nat} (hp : ∀ j, o = some j → 0 < j ∧ j < 2 ^ 31) : bz o = 0 ↔ o = none := by
  cases o with
  | none => exact ⟨fun _ => rfl, fun _ => rfl⟩
  | some j => exact ⟨fun w => absurd w (nI_ne0 (hp j rfl).1 (hp j rfl).2), fun w => by cases w⟩
set_option maxRecDepth 100000 in
set_option maxHeartbeats 1000000 in
theorem w_light_L {x : pX} {d : Nat} {S : pS} {b : Nat × Nat} {Q : Int32 → pS → Prop} {ad : Nat → Nat} {σ : Nat → Int32} (hS : WS S ad) (hW : WR S ad σ) {n : Nat} (hn : σ 0 = nI n) (hn10 : n ≤ 10) {g : Int32} {N : Nat} (hN : N = 2 ^ n) (hN0 : 0 < N) (hN1 : N ≤ 1024) (h : Q (bz (fgn σ n g (N - 1)).1) S) : ∀ (c k : Nat), k + c = N - 1 → V x (d + 2) M_X7_lightestFor (qi Q) b 7 [(0, .ref ((ad 0))), (1, .int g), (2, .int (bz (fgn σ n g k).1)), (3, .int ((fgn σ n g k).2)), (4, .int (nI (k + 1)))] [] S := by
  intro c
  induction c with
  | zero =>
    intro k hk 
    refine V_il (pc := 7) dX7_lightestFor_7 rfl ?_
    refine V_aln (pc := 9) dX7_lightestFor_9 rfl rfl ?_
    refine V_cVi0 (pc := 10) (jc_X7_99 dX7_lightestFor_10 rfl) rfl rfl (Nat.le_of_ble_eq_true rfl) (hS.k 0 (by decide) rfl) ?_
    refine w_setCount hS hW hn hn10 ?_
    rw [shl1 hn10, ← hN]
    refine V_cge (pc := 13) (t := 56) dX7_lightestFor_13 (by decide) (fun h13 => ?_) (fun h13 => ?_)
    · refine V_iln (pc := 56) dX7_lightestFor_56 rfl rfl ?_
      refine V_iret (pc := 57) dX7_lightestFor_57 rfl rfl ?_
      obtain rfl : k = N - 1 := by omega
      exact h
    · exact absurd (nI_le (by omega) (by omega)) h13
  | succ c ih =>
    intro k hk 
    refine V_il (pc := 7) dX7_lightestFor_7 rfl ?_
    refine V_aln (pc := 9) dX7_lightestFor_9 rfl rfl ?_
    refine V_cVi0 (pc := 10) (jc_X7_99 dX7_lightestFor_10 rfl) rfl rfl (Nat.le_of_ble_eq_true rfl) (hS.k 0 (by decide) rfl) ?_
    refine w_setCount hS hW hn hn10 ?_
    rw [shl1 hn10, ← hN]
    refine V_cge (pc := 13) (t := 56) dX7_lightestFor_13 (by decide) (fun h13 => ?_) (fun h13 => ?_)
    · exact absurd h13 (nI_ge (by omega) (by omega))
    · refine V_aln (pc := 16) dX7_lightestFor_16 rfl rfl ?_
      refine V_il (pc := 17) dX7_lightestFor_17 rfl ?_
      refine V_cVi0 (pc := 19) (jc_X7_182 dX7_lightestFor_19 rfl) rfl rfl (Nat.le_of_ble_eq_true rfl) (hS.k 0 (by decide) rfl) ?_
      refine w_stampsOf hS hW hn hn10 ?_
      refine V_iln (pc := 22) dX7_lightestFor_22 rfl rfl ?_
      refine V_cne (pc := 23) (t := 50) dX7_lightestFor_23 (by decide) (fun h23 => ?_) (fun h23 => ?_)
      · have e1 : fgn σ n g (k + 1) = (fgn σ n g k) := by show (if fsum σ (nI (k + 1)) 1 n = g ∧ ((fgn σ n g k).1 = none ∨ fsum σ (nI (k + 1)) 2 n < (fgn σ n g k).2) then _ else _) = _; rw [if_neg (fun w => h23 w.1)]
        refine V_inc (pc := 50) (fun y => [(0, .ref ((ad 0))), (1, .int g), (2, .int (bz (fgn σ n g k).1)), (3, .int ((fgn σ n g k).2)), (4, .int y)]) (w := 1) dX7_lightestFor_50 (by decide) (by decide) rfl (fun _ => rfl) (fun y50 ey50 => ?_)
        obtain rfl : y50 = nI ((k + 1) + 1) := by rw [ey50]; exact nI_1 _
        refine V_goto (pc := 53) (t := 7) dX7_lightestFor_53 (by decide) ?_
        have q := ih (k + 1) (by omega)
        rw [e1] at q
        exact q
      · refine V_aln (pc := 26) dX7_lightestFor_26 rfl rfl ?_
        refine V_il (pc := 27) dX7_lightestFor_27 rfl ?_
        refine V_cVi0 (pc := 29) (jc_X7_115 dX7_lightestFor_29 rfl) rfl rfl (Nat.le_of_ble_eq_true rfl) (hS.k 0 (by decide) rfl) ?_
        refine w_grainsOf hS hW hn hn10 ?_
        refine V_is (pc := 32) (fun y => [(0, .ref ((ad 0))), (1, .int g), (2, .int (bz (fgn σ n g k).1)), (3, .int ((fgn σ n g k).2)), (4, .int (nI (k + 1))), (5, .int y)]) dX7_lightestFor_32 (by decide) (fun _ => rfl) (fun y32 ey32 => ?_)
        refine V_iln (pc := 34) dX7_lightestFor_34 rfl rfl ?_
        refine V_eq (pc := 35) (t := 44) dX7_lightestFor_35 (by decide) (fun h35 => ?_) (fun h35 => ?_)
        · have hz := (bz_0 (fun j hj => ⟨fgn_pos σ n g k j hj, by have := fgn_lt σ n g k j hj; omega⟩)).mp h35
          have e1 : fgn σ n g (k + 1) = (some (k + 1), fsum σ (nI (k + 1)) 2 n) := by show (if fsum σ (nI (k + 1)) 1 n = g ∧ ((fgn σ n g k).1 = none ∨ fsum σ (nI (k + 1)) 2 n < (fgn σ n g k).2) then _ else _) = _; rw [if_pos ⟨h23, Or.inl hz⟩]
          refine V_il (pc := 44) dX7_lightestFor_44 rfl ?_
          refine V_isn (pc := 46) (fun y => [(0, .ref ((ad 0))), (1, .int g), (2, .int y), (3, .int ((fgn σ n g k).2)), (4, .int (nI (k + 1))), (5, .int y32)]) dX7_lightestFor_46 rfl (by decide) (fun _ => rfl) (fun y46 ey46 => ?_)
          subst ey46
          refine V_il (pc := 47) dX7_lightestFor_47 rfl ?_
          refine V_isn (pc := 49) (fun y => [(0, .ref ((ad 0))), (1, .int g), (2, .int (nI (k + 1))), (3, .int y), (4, .int (nI (k + 1))), (5, .int y32)]) dX7_lightestFor_49 rfl (by decide) (fun _ => rfl) (fun y49 ey49 => ?_)
          refine V_inc (pc := 50) (fun y => [(0, .ref ((ad 0))), (1, .int g), (2, .int (nI (k + 1))), (3, .int y49), (4, .int y), (5, .int y32)]) (w := 1) dX7_lightestFor_50 (by decide) (by decide) rfl (fun _ => rfl) (fun y50 ey50 => ?_)
          obtain rfl : y50 = nI ((k + 1) + 1) := by rw [ey50]; exact nI_1 _
          refine V_goto (pc := 53) (t := 7) dX7_lightestFor_53 (by decide) ?_
          refine V_lp [0, 1, 2, 3, 4] (ls' := [(0, .ref ((ad 0))), (1, .int g), (2, .int (nI (k + 1))), (3, .int y49), (4, .int (nI ((k + 1) + 1)))]) rfl ?_
          have q := ih (k + 1) (by omega)
          rw [e1] at q
          subst ey49
          subst ey32
          exact q
        · have hz := fun w => h35 ((bz_0 (fun j hj => ⟨fgn_pos σ n g k j hj, by have := fgn_lt σ n g k j hj; omega⟩)).mpr w)
          refine V_il (pc := 38) dX7_lightestFor_38 rfl ?_
          refine V_iln (pc := 40) dX7_lightestFor_40 rfl rfl ?_
          refine V_cge (pc := 41) (t := 50) dX7_lightestFor_41 (by decide) (fun h41 => ?_) (fun h41 => ?_)
          · rw [ey32] at h41
            have e1 : fgn σ n g (k + 1) = (fgn σ n g k) := by show (if fsum σ (nI (k + 1)) 1 n = g ∧ ((fgn σ n g k).1 = none ∨ fsum σ (nI (k + 1)) 2 n < (fgn σ n g k).2) then _ else _) = _; rw [if_neg (fun w => w.2.elim hz (Int32.not_lt.mpr h41))]
            refine V_inc (pc := 50) (fun y => [(0, .ref ((ad 0))), (1, .int g), (2, .int (bz (fgn σ n g k).1)), (3, .int ((fgn σ n g k).2)), (4, .int y), (5, .int y32)]) (w := 1) dX7_lightestFor_50 (by decide) (by decide) rfl (fun _ => rfl) (fun y50 ey50 => ?_)
            obtain rfl : y50 = nI ((k + 1) + 1) := by rw [ey50]; exact nI_1 _
            refine V_goto (pc := 53) (t := 7) dX7_lightestFor_53 (by decide) ?_
            refine V_lp [0, 1, 2, 3, 4] (ls' := [(0, .ref ((ad 0))), (1, .int g), (2, .int (bz (fgn σ n g k).1)), (3, .int ((fgn σ n g k).2)), (4, .int (nI ((k + 1) + 1)))]) rfl ?_
            have q := ih (k + 1) (by omega)
            rw [e1] at q
            exact q
          · rw [ey32] at h41
            have e1 : fgn σ n g (k + 1) = (some (k + 1), fsum σ (nI (k + 1)) 2 n) := by show (if fsum σ (nI (k + 1)) 1 n = g ∧ ((fgn σ n g k).1 = none ∨ fsum σ (nI (k + 1)) 2 n < (fgn σ n g k).2) then _ else _) = _; rw [if_pos ⟨h23, Or.inr (Int32.not_le.mp h41)⟩]
            refine V_il (pc := 44) dX7_lightestFor_44 rfl ?_
            refine V_isn (pc := 46) (fun y => [(0, .ref ((ad 0))), (1, .int g), (2, .int y), (3, .int ((fgn σ n g k).2)), (4, .int (nI (k + 1))), (5, .int y32)]) dX7_lightestFor_46 rfl (by decide) (fun _ => rfl) (fun y46 ey46 => ?_)
            subst ey46
            refine V_il (pc := 47) dX7_lightestFor_47 rfl ?_
            refine V_isn (pc := 49) (fun y => [(0, .ref ((ad 0))), (1, .int g), (2, .int (nI (k + 1))), (3, .int y), (4, .int (nI (k + 1))), (5, .int y32)]) dX7_lightestFor_49 rfl (by decide) (fun _ => rfl) (fun y49 ey49 => ?_)
            refine V_inc (pc := 50) (fun y => [(0, .ref ((ad 0))), (1, .int g), (2, .int (nI (k + 1))), (3, .int y49), (4, .int y), (5, .int y32)]) (w := 1) dX7_lightestFor_50 (by decide) (by decide) rfl (fun _ => rfl) (fun y50 ey50 => ?_)
            obtain rfl : y50 = nI ((k + 1) + 1) := by rw [ey50]; exact nI_1 _
            refine V_goto (pc := 53) (t := 7) dX7_lightestFor_53 (by decide) ?_
            refine V_lp [0, 1, 2, 3, 4] (ls' := [(0, .ref ((ad 0))), (1, .int g), (2, .int (nI (k + 1))), (3, .int y49), (4, .int (nI ((k + 1) + 1)))]) rfl ?_
            have q := ih (k + 1) (by omega)
            rw [e1] at q
            subst ey49
            subst ey32
            exact q
set_option maxRecDepth 100000 in
set_option maxHeartbeats 1000000 in
theorem w_lightestFor {x : pX} {d : Nat} {S : pS} {Q : Int32 → pS → Prop} {ad : Nat → Nat} {σ : Nat → Int32} (hS : WS S ad) (hW : WR S ad σ) {n : Nat} (hn : σ 0 = nI n) (hn10 : n ≤ 10) {g : Int32} (h : Q (bz (fgn σ n g (2 ^ n - 1)).1) S) : PI x (d + 2) M_X7_lightestFor [.ref ((ad 0)), .int g] S Q := by
  refine PM_of (by decide +kernel) (Nat.le_of_ble_eq_true rfl) ?_
  show V x (d + 2) M_X7_lightestFor (qi Q) (0, 0) 0 [(0, .ref ((ad 0))), (1, .int g)] [] S
  refine V_iconst (pc := 0) (v := 0) dX7_lightestFor_0 (by decide) ?_
  refine V_isn (pc := 1) (fun y => [(0, .ref ((ad 0))), (1, .int g), (2, .int y)]) dX7_lightestFor_1 rfl (by decide) (fun _ => rfl) (fun y1 ey1 => ?_)
  refine V_iconst (pc := 2) (v := 0) dX7_lightestFor_2 (by decide) ?_
  refine V_isn (pc := 3) (fun y => [(0, .ref ((ad 0))), (1, .int g), (2, .int y1), (3, .int y)]) dX7_lightestFor_3 rfl (by decide) (fun _ => rfl) (fun y3 ey3 => ?_)
  refine V_iconst (pc := 4) (v := 1) dX7_lightestFor_4 (by decide) ?_
  refine V_is (pc := 5) (fun y => [(0, .ref ((ad 0))), (1, .int g), (2, .int y1), (3, .int y3), (4, .int y)]) dX7_lightestFor_5 (by decide) (fun _ => rfl) (fun y5 ey5 => ?_)
  obtain rfl : y5 = nI 1 := ey5
  subst ey1; subst ey3
  exact w_light_L hS hW hn hn10 rfl (Nat.two_pow_pos n) (p10 hn10) h (2 ^ n - 1) 0 (by omega)
set_option maxRecDepth 100000 in
set_option maxHeartbeats 1000000 in
theorem w_countingText {x : pX} {d : Nat} {S : pS} {Q : Int32 → pS → Prop} {ad : Nat → Nat} {σ : Nat → Int32} (hS : WS S ad) (hW : WR S ad σ) {nt : Nat} (hX : TX S ad σ nt) {k : Int32} (h1 : ∀ i, i < 3 → k = nI i → Q (if fcnt σ (nI i) nt < 0 then -1000000005 else fcnt σ (nI i) nt) S) (h0 : ¬ (0 ≤ k.toInt ∧ k.toInt ≤ 2) → Q (-1000000005) S) : PI x (d + 2) M_X7_countingText [.ref ((ad 0)), .int k] S Q := by
  refine PM_of (by decide +kernel) (Nat.le_of_ble_eq_true rfl) ?_
  show V x (d + 2) M_X7_countingText (qi Q) (0, 0) 0 [(0, .ref ((ad 0))), (1, .int k)] [] S
  refine V_iln (pc := 0) dX7_countingText_0 rfl rfl ?_
  refine V_iconst (pc := 1) (v := 0) dX7_countingText_1 (by decide) ?_
  refine V_iconst (pc := 2) (v := 2) dX7_countingText_2 (by decide) ?_
  refine V_cSi0 (pc := 3) (jc_X7_105 dX7_countingText_3 rfl) rfl rfl (Nat.le_of_ble_eq_true rfl) ?_
  refine c_within 0 2 (by decide) (by decide) (fun a1 a2 => ?_) (fun a0 => ?_)
  · obtain ⟨i, hi, e1, e2, e3⟩ := idx_of (w := k) (n := 3) (by decide) a1 (by omega)
    subst e1
    refine V_eq (pc := 6) (t := 18) dX7_countingText_6 (by decide) (fun h => absurd h (by decide)) (fun _ => ?_)
    refine V_aln (pc := 9) dX7_countingText_9 rfl rfl ?_
    refine V_gr (pc := 10) 7 9 233 dX7_countingText_10 (FL_X7_39 rfl) rfl rfl (hS.k 0 (by decide) rfl) hS.2.2.1.2.2.2.2.1 ?_
    refine V_iln (pc := 13) dX7_countingText_13 rfl rfl ?_
    refine V_ia (pc := 14) (N := 3) i dX7_countingText_14 (hS.k 6 (by decide) rfl) (hS.2.1 6 (by decide)) (by decide) rfl (by show (_ : Nat) < 3; omega) ?_
    refine V_goto (pc := 15) (t := 20) dX7_countingText_15 (by decide) ?_
    refine V_iret (pc := 20) dX7_countingText_20 rfl rfl ?_
    first
      | exact h0 a0
      | (rw [hX.2 i hi]; exact h1 i hi rfl)
  · refine V_eq (pc := 6) (t := 18) dX7_countingText_6 (by decide) (fun _ => ?_) (fun h => absurd h (by decide))
    refine V_ldc (pc := 18) dX7_countingText_18 (KC_X7_38 rfl) ?_
    refine V_iret (pc := 20) dX7_countingText_20 rfl rfl ?_
    first
      | exact h0 a0
      | (rw [hX.2 i hi]; exact h1 i hi rfl)
