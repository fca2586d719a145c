/-! ===== the class's reader: words, numbers, signs ===== -/
/-- the reader's cells; the tape's bytes -/
def RX (S : pS) (ct : Nat → Nat) (tp : Nat → Int32) (L : Nat) : Prop := (hk S (ct 0) 1 ∧ hk S (ct 1) 4 ∧ hk S (ct 2) 10 ∧ hk S (ct 3) 10) ∧ (gN S (ct 2) = 96 ∧ gN S (ct 3) = 96) ∧ (gR S 32 (ct 0) = some (ct 1) ∧ gR S 39 (ct 0) = some (ct 3) ∧ gR S 128 (ct 1) = some (ct 2)) ∧ (gI S 129 (ct 1) = nI L ∧ L ≤ 96) ∧ (∀ j, j < 96 → gX S (ct 2) j = tp j) ∧ (∀ j, j < 96 → ∃ b : Nat, b < 256 ∧ tp j = nI b) ∧ (ct 0 ≠ ct 1 ∧ ct 2 ≠ ct 3)
/-- what the reader touches -/
def rT (ct : Nat → Nat) (a : Nat) : Prop := a = ct 0 ∨ a = ct 3
theorem RX.f {S S2 : pS} {ct : Nat → Nat} {tp : Nat → Int32} {L : Nat} (h : RX S ct tp L) (hf : fr (rT ct) S S2) : RX S2 ct tp L := by
  obtain ⟨⟨a1, a2, a3, a4⟩, b, c, d, e, f, g⟩ := h
  have n1 : ¬ rT ct (ct 1) := fun q => by
    rcases q with q | q
    · exact g.1 q.symm
    · exact hk_ne a2 a4 (by decide) q
  have n2 : ¬ rT ct (ct 2) := fun q => by
    rcases q with q | q
    · exact hk_ne a3 a1 (by decide) q
    · exact g.2 q
  exact ⟨⟨hk_fr hf a1, hk_fr hf a2, hk_fr hf a3, hk_fr hf a4⟩, by rw [gN_sp hf.1]; exact b, by rw [gR_sp hf.1]; exact c, ⟨by rw [hf.2.1 _ _ n1]; exact d.1, d.2⟩, by rw [hf.2.2 _ n2]; exact e, f, g⟩
/-- what is ahead, as the class holds it -/
def tokA (ah en : Int32) (tp : Nat → Int32) (s : tk) : Prop := (s.2.2 = 0 ∧ ah = -1) ∨ (s.2.2 = 1 ∧ ah = -2 ∧ en = nI s.2.1) ∨ (s.2.2 = 2 ∧ ah = -3 ∧ en = nI s.2.1) ∨ (s.2.2 = 3 ∧ ah = tp s.1 ∧ en = nI s.2.1) ∨ (s.2.2 = 4 ∧ (ah = -4 ∨ (ah = -3 ∧ en = nI s.2.1 ∧ 4 < s.2.1 - s.1)))
def RT (S : pS) (ct : Nat → Nat) (tp : Nat → Int32) (s : tk) : Prop := gI S 34 (ct 0) = nI s.1 ∧ tokA (gI S 33 (ct 0)) (gI S 35 (ct 0)) tp s
/-- a number's digits -/
def tkd (tp : Nat → Int32) (s : tk) : Prop := (s.2.2 = 2 → s.2.1 - s.1 ≤ 4 ∧ ∀ j, s.1 ≤ j → j < s.2.1 → inR tp 48 57 j) ∧ (s.2.2 = 1 → inR tp 97 122 s.1)
theorem eor_in (tp : Nat → Int32) (lo hi : Int) : ∀ c p j, p ≤ j → j < eor tp lo hi c p → inR tp lo hi j
  | 0, p, j, h1, h2 => by unfold eor at h2; omega
  | c + 1, p, j, h1, h2 => by
    unfold eor at h2
    split at h2
    · rename_i q
      by_cases e : j = p
      · subst e; exact q
      · exact eor_in tp lo hi c (p + 1) j (by omega) h2
    · omega
theorem nxt_d (tp : Nat → Int32) (L e t : Nat) : tkd tp (nxt tp L e t) := by
  unfold tkd nxt
  split
  · exact ⟨fun h => absurd (show (0 : Nat) = 2 from h) (by decide), fun h => absurd (show (0 : Nat) = 1 from h) (by decide)⟩
  · split
    · rename_i q1 q2
      refine ⟨fun h => ?_, fun _ => q2⟩
      dsimp only at h
      split at h <;> exact absurd h (by decide)
    · split
      · rename_i q1 q2 q3
        refine ⟨fun h => ?_, fun h => ?_⟩
        · dsimp only at h ⊢
          split at h
          · exact absurd h (by decide)
          · rename_i w
            exact ⟨by omega, fun j h1 h2 => eor_in tp 48 57 _ _ j h1 h2⟩
        · dsimp only at h
          split at h <;> exact absurd h (by decide)
      · exact ⟨fun h => absurd (show (3 : Nat) = 2 from h) (by decide), fun h => absurd (show (3 : Nat) = 1 from h) (by decide)⟩
set_option maxRecDepth 100000 in
set_option maxHeartbeats 1000000 in
theorem r_eor_L {x : pX} {d : Nat} {S : pS} {b : Nat × Nat} {Q : Int32 → pS → Prop} {ct : Nat → Nat} {tp : Nat → Int32} {L : Nat} (hX : RX S ct tp L) {v1 lo hi : Int32} {l u : Int} {q : Nat} (hlo : lo.toInt = l) (hhi : hi.toInt = u) (h : Q (nI q) S) : ∀ (c k : Nat), k + c = L → eor tp l u c k = q → V x (d + 2) M_X1_endOfRow (qi Q) b 3 [(0, .ref ((ct 0))), (1, .int v1), (2, .int lo), (3, .int hi), (4, .int (nI k))] [] S := by
  intro c
  induction c with
  | zero =>
    intro k hk hr
    refine V_il (pc := 3) dX1_endOfRow_3 rfl ?_
    refine V_aln (pc := 5) dX1_endOfRow_5 rfl rfl ?_
    refine V_gr (pc := 6) 1 0 32 dX1_endOfRow_6 (FL_X1_12 rfl) rfl rfl hX.1.1 hX.2.2.1.1 ?_
    refine V_gie (pc := 9) 4 1 129 dX1_endOfRow_9 (FL_X1_86 rfl) rfl rfl hX.1.2.1 hX.2.2.2.1.1 ?_
    refine V_cge (pc := 12) (t := 38) dX1_endOfRow_12 (by decide) (fun h12 => ?_) (fun h12 => ?_)
    · refine V_il (pc := 38) dX1_endOfRow_38 rfl ?_
      refine V_iret (pc := 40) dX1_endOfRow_40 rfl rfl ?_
      subst hr
      exact h
    · exact absurd (nI_le (by omega) (by have := hX.2.2.2.1.2; omega)) h12
  | succ c ih =>
    intro k hk hr
    have h96 := hX.2.2.2.1.2
    refine V_il (pc := 3) dX1_endOfRow_3 rfl ?_
    refine V_aln (pc := 5) dX1_endOfRow_5 rfl rfl ?_
    refine V_gr (pc := 6) 1 0 32 dX1_endOfRow_6 (FL_X1_12 rfl) rfl rfl hX.1.1 hX.2.2.1.1 ?_
    refine V_gie (pc := 9) 4 1 129 dX1_endOfRow_9 (FL_X1_86 rfl) rfl rfl hX.1.2.1 hX.2.2.2.1.1 ?_
    refine V_cge (pc := 12) (t := 38) dX1_endOfRow_12 (by decide) (fun h12 => ?_) (fun h12 => ?_)
    · exact absurd h12 (nI_ge (by omega) (by have := hX.2.2.2.1.2; omega))
    · refine V_aln (pc := 15) dX1_endOfRow_15 rfl rfl ?_
      refine V_gr (pc := 16) 1 0 32 dX1_endOfRow_16 (FL_X1_12 rfl) rfl rfl hX.1.1 hX.2.2.1.1 ?_
      refine V_il (pc := 19) dX1_endOfRow_19 rfl ?_
      refine V_cVi0 (pc := 21) (jc_X1_78 dX1_endOfRow_21 rfl) rfl rfl (Nat.le_of_ble_eq_true rfl) hX.1.2.1 ?_
      refine t_byteAt hX.1.2.1 hX.2.2.1.2.2 hX.1.2.2.1 hX.2.1.1 hX.2.2.2.1.1 hX.2.2.2.1.2 (fun j hj ej tj => ?_) (fun j0 => absurd ⟨by rw [nI_toInt (by omega)]; omega, by rw [nI_toInt (by omega)]; omega⟩ j0)
      · have e2 : k = j := (nI_eq (by omega) (by omega)).mp ej
        subst e2
        rw [hX.2.2.2.2.1 k (by omega)]
        refine V_iln (pc := 24) dX1_endOfRow_24 rfl rfl ?_
        refine V_iln (pc := 25) dX1_endOfRow_25 rfl rfl ?_
        refine V_cSi0 (pc := 26) (jc_X1_82 dX1_endOfRow_26 rfl) rfl rfl (Nat.le_of_ble_eq_true rfl) ?_
        refine c_within l u hlo hhi (fun a1 a2 => ?_) (fun a0 => ?_)
        · have e1 : eor tp l u (c + 1) k = eor tp l u c (k + 1) := by
            show (if inR tp l u k then _ else k) = _
            rw [if_pos ⟨a1, a2⟩]
          rw [e1] at hr
          refine V_eq (pc := 29) (t := 38) dX1_endOfRow_29 (by decide) (fun h => absurd h (by decide)) (fun _ => ?_)
          refine V_inc (pc := 32) (fun y => [(0, .ref ((ct 0))), (1, .int v1), (2, .int lo), (3, .int hi), (4, .int y)]) (w := 1) dX1_endOfRow_32 (by decide) (by decide) rfl (fun _ => rfl) (fun y32 ey32 => ?_)
          obtain rfl : y32 = nI (k + 1) := by rw [ey32]; exact nI_1 _
          refine V_goto (pc := 35) (t := 3) dX1_endOfRow_35 (by decide) ?_
          exact ih (k + 1) (by omega) hr
        · have e1 : eor tp l u (c + 1) k = k := by
            show (if inR tp l u k then _ else k) = _
            rw [if_neg a0]
          rw [e1] at hr
          subst hr
          refine V_eq (pc := 29) (t := 38) dX1_endOfRow_29 (by decide) (fun _ => ?_) (fun h => absurd h (by decide))
          refine V_il (pc := 38) dX1_endOfRow_38 rfl ?_
          refine V_iret (pc := 40) dX1_endOfRow_40 rfl rfl ?_
          exact h
set_option maxRecDepth 100000 in
set_option maxHeartbeats 1000000 in
theorem r_eor {x : pX} {d : Nat} {S : pS} {Q : Int32 → pS → Prop} {ct : Nat → Nat} {tp : Nat → Int32} {L : Nat} (hX : RX S ct tp L) {lo hi : Int32} (l u : Int) {p : Nat} (hp : p ≤ L) (hlo : lo.toInt = l) (hhi : hi.toInt = u) (h : Q (nI (eor tp l u (L - p) p)) S) : PI x (d + 2) M_X1_endOfRow [.ref ((ct 0)), .int (nI p), .int lo, .int hi] S Q := by
  refine PM_of (by decide +kernel) (Nat.le_of_ble_eq_true rfl) ?_
  show V x (d + 2) M_X1_endOfRow (qi Q) (0, 0) 0 [(0, .ref ((ct 0))), (1, .int (nI p)), (2, .int lo), (3, .int hi)] [] S
  refine V_iln (pc := 0) dX1_endOfRow_0 rfl rfl ?_
  refine V_is (pc := 1) (fun y => [(0, .ref ((ct 0))), (1, .int (nI p)), (2, .int lo), (3, .int hi), (4, .int y)]) dX1_endOfRow_1 (by decide) (fun _ => rfl) (fun y1 ey1 => ?_)
  subst ey1
  exact r_eor_L hX hlo hhi h (L - p) p (by omega) rfl
set_option maxRecDepth 100000 in
set_option maxHeartbeats 1000000 in
theorem r_stop {x : pX} {d : Nat} {S : pS} {Q : pS → Prop} {ct : Nat → Nat} (hX : hk S (ct 0) 1) (h1 : gI S 36 (ct 0) = -1 → Q (sI S 36 (ct 0) (gI S 34 (ct 0)))) (h0 : ¬ gI S 36 (ct 0) = -1 → Q S) : PV x (d + 1) M_X1_stop [.ref ((ct 0))] S Q := by
  refine PM_of (by decide +kernel) (Nat.le_of_ble_eq_true rfl) ?_
  show V x (d + 1) M_X1_stop (qv Q) (0, 0) 0 [(0, .ref ((ct 0)))] [] S
  refine V_aln (pc := 0) dX1_stop_0 rfl rfl ?_
  refine V_gie (pc := 1) 1 4 36 dX1_stop_1 (FL_X1_32 rfl) rfl rfl hX rfl ?_
  refine V_iconst (pc := 4) (v := (-1)) dX1_stop_4 (by decide) ?_
  refine V_cne (pc := 5) (t := 16) dX1_stop_5 (by decide) (fun h5 => ?_) (fun h5 => ?_)
  · have q := h5
    refine V_ret (pc := 16) dX1_stop_16 rfl ?_
    first | exact h1 q | exact h0 q
  · have q := h5
    refine V_aln (pc := 8) dX1_stop_8 rfl rfl ?_
    refine V_aln (pc := 9) dX1_stop_9 rfl rfl ?_
    refine V_gie (pc := 10) 1 2 34 dX1_stop_10 (FL_X1_26 rfl) rfl rfl hX rfl ?_
    refine V_pi (pc := 13) 1 4 36 dX1_stop_13 (FL_X1_32 rfl) rfl rfl rfl hX ?_
    refine V_ret (pc := 16) dX1_stop_16 rfl ?_
    first | exact h1 q | exact h0 q
set_option maxRecDepth 100000 in
set_option maxHeartbeats 1000000 in
theorem r_addStep {x : pX} {d : Nat} {S : pS} {Q : pS → Prop} {ct : Nat → Nat} {tp : Nat → Int32} {L : Nat} (hX : RX S ct tp L) {v : Int32} {c : Nat} (hc : gI S 40 (ct 0) = nI c) (hc96 : c ≤ 96) (h1 : c < 96 → Q (sI (sX S (ct 3) (upd (gX S (ct 3)) c v)) 40 (ct 0) (nI (c + 1)))) (h0 : ¬ c < 96 → Q S) : PV x (d + 1) M_X1_addStep [.ref ((ct 0)), .int v] S Q := by
  refine PM_of (by decide +kernel) (Nat.le_of_ble_eq_true rfl) ?_
  show V x (d + 1) M_X1_addStep (qv Q) (0, 0) 0 [(0, .ref ((ct 0))), (1, .int v)] [] S
  refine V_aln (pc := 0) dX1_addStep_0 rfl rfl ?_
  refine V_gie (pc := 1) 1 8 40 dX1_addStep_1 (FL_X1_38 rfl) rfl rfl hX.1.1 rfl ?_
  refine V_bipush (pc := 4) (v := 96) dX1_addStep_4 (by decide) ?_
  refine V_cge (pc := 6) (t := 29) dX1_addStep_6 (by decide) (fun h6 => ?_) (fun h6 => ?_)
  · have q : ¬ c < 96 := fun w => nI_ge (b := 96) w (by decide) (by rw [← hc]; exact h6)
    refine V_ret (pc := 29) dX1_addStep_29 rfl ?_
    first | exact h1 q | exact h0 q
  · have q : c < 96 := Nat.lt_of_not_le (fun w => h6 (by rw [hc]; exact nI_le (a := 96) w (by omega)))
    refine V_aln (pc := 9) dX1_addStep_9 rfl rfl ?_
    refine V_gr (pc := 10) 1 7 39 dX1_addStep_10 (FL_X1_18 rfl) rfl rfl hX.1.1 hX.2.2.1.2.1 ?_
    refine V_aln (pc := 13) dX1_addStep_13 rfl rfl ?_
    refine V_gie (pc := 14) 1 8 40 dX1_addStep_14 (FL_X1_38 rfl) rfl rfl hX.1.1 rfl ?_
    refine V_iln (pc := 17) dX1_addStep_17 rfl rfl ?_
    refine V_ias (pc := 18) (N := 96) c dX1_addStep_18 hX.1.2.2.2 hX.2.1.2 (by decide) hc q ?_
    refine V_aln (pc := 19) dX1_addStep_19 rfl rfl ?_
    refine V_dup (pc := 20) dX1_addStep_20 rfl ?_
    refine V_gie (pc := 21) 1 8 40 dX1_addStep_21 (FL_X1_38 rfl) rfl rfl hX.1.1 rfl ?_
    refine V_iconst (pc := 24) (v := 1) dX1_addStep_24 (by decide) ?_
    refine V_iadd (pc := 25) dX1_addStep_25 ?_
    refine V_pi (pc := 26) 1 8 40 dX1_addStep_26 (FL_X1_38 rfl) rfl rfl rfl hX.1.1 ?_
    rw [show gI (sX S (ct 3) (upd (gX S (ct 3)) c v)) 40 (ct 0) = nI c from hc, nI_1]
    refine V_ret (pc := 29) dX1_addStep_29 rfl ?_
    first | exact h1 q | exact h0 q
set_option maxRecDepth 100000 in
set_option maxHeartbeats 1000000 in
theorem r_levelOf {x : pX} {d : Nat} {S : pS} {Q : Int32 → pS → Prop} {c : Int32} (h : Q (nI (lvOf c)) S) : PI x (d + 1) M_X1_levelOf [.int c] S Q := by
  refine PM_of (by decide +kernel) (Nat.le_of_ble_eq_true rfl) ?_
  show V x (d + 1) M_X1_levelOf (qi Q) (0, 0) 0 [(0, .int c)] [] S
  refine V_iln (pc := 0) dX1_levelOf_0 rfl rfl ?_
  refine V_lk (pc := 1) [(38, 85), (42, 91), (43, 89), (45, 89), (47, 91), (60, 87), (61, 87), (62, 87), (124, 83)] dX1_levelOf_1 rfl (by decide) (fun z => by simp only [Op.lookupswitch.offset_cons, Op.lookupswitch.offset_nil]; repeat (first | omega | split)) (fun t1 ht1 => ?_)
  simp only [Op.lookupswitch.offset_cons, Op.lookupswitch.offset_nil] at ht1
  by_cases c1_0 : c = (38 : Int32)
  · rw [if_pos (by rw [c1_0]; decide)] at ht1
    obtain rfl : t1 = 86 := by omega
    refine V_iconst (pc := 86) (v := 1) dX1_levelOf_86 (by decide) ?_
    refine V_iret (pc := 87) dX1_levelOf_87 rfl rfl ?_
    subst_vars
    exact h
  rw [if_neg (fun q => c1_0 (Int32.toInt_inj.mp (q.symm.trans (by decide))))] at ht1
  by_cases c1_1 : c = (42 : Int32)
  · rw [if_pos (by rw [c1_1]; decide)] at ht1
    obtain rfl : t1 = 92 := by omega
    refine V_iconst (pc := 92) (v := 4) dX1_levelOf_92 (by decide) ?_
    refine V_iret (pc := 93) dX1_levelOf_93 rfl rfl ?_
    subst_vars
    exact h
  rw [if_neg (fun q => c1_1 (Int32.toInt_inj.mp (q.symm.trans (by decide))))] at ht1
  by_cases c1_2 : c = (43 : Int32)
  · rw [if_pos (by rw [c1_2]; decide)] at ht1
    obtain rfl : t1 = 90 := by omega
    refine V_iconst (pc := 90) (v := 3) dX1_levelOf_90 (by decide) ?_
    refine V_iret (pc := 91) dX1_levelOf_91 rfl rfl ?_
    subst_vars
    exact h
  rw [if_neg (fun q => c1_2 (Int32.toInt_inj.mp (q.symm.trans (by decide))))] at ht1
  by_cases c1_3 : c = (45 : Int32)
  · rw [if_pos (by rw [c1_3]; decide)] at ht1
    obtain rfl : t1 = 90 := by omega
    refine V_iconst (pc := 90) (v := 3) dX1_levelOf_90 (by decide) ?_
    refine V_iret (pc := 91) dX1_levelOf_91 rfl rfl ?_
    subst_vars
    exact h
  rw [if_neg (fun q => c1_3 (Int32.toInt_inj.mp (q.symm.trans (by decide))))] at ht1
  by_cases c1_4 : c = (47 : Int32)
  · rw [if_pos (by rw [c1_4]; decide)] at ht1
    obtain rfl : t1 = 92 := by omega
    refine V_iconst (pc := 92) (v := 4) dX1_levelOf_92 (by decide) ?_
    refine V_iret (pc := 93) dX1_levelOf_93 rfl rfl ?_
    subst_vars
    exact h
  rw [if_neg (fun q => c1_4 (Int32.toInt_inj.mp (q.symm.trans (by decide))))] at ht1
  by_cases c1_5 : c = (60 : Int32)
  · rw [if_pos (by rw [c1_5]; decide)] at ht1
    obtain rfl : t1 = 88 := by omega
    refine V_iconst (pc := 88) (v := 2) dX1_levelOf_88 (by decide) ?_
    refine V_iret (pc := 89) dX1_levelOf_89 rfl rfl ?_
    subst_vars
    exact h
  rw [if_neg (fun q => c1_5 (Int32.toInt_inj.mp (q.symm.trans (by decide))))] at ht1
  by_cases c1_6 : c = (61 : Int32)
  · rw [if_pos (by rw [c1_6]; decide)] at ht1
    obtain rfl : t1 = 88 := by omega
    refine V_iconst (pc := 88) (v := 2) dX1_levelOf_88 (by decide) ?_
    refine V_iret (pc := 89) dX1_levelOf_89 rfl rfl ?_
    subst_vars
    exact h
  rw [if_neg (fun q => c1_6 (Int32.toInt_inj.mp (q.symm.trans (by decide))))] at ht1
  by_cases c1_7 : c = (62 : Int32)
  · rw [if_pos (by rw [c1_7]; decide)] at ht1
    obtain rfl : t1 = 88 := by omega
    refine V_iconst (pc := 88) (v := 2) dX1_levelOf_88 (by decide) ?_
    refine V_iret (pc := 89) dX1_levelOf_89 rfl rfl ?_
    subst_vars
    exact h
  rw [if_neg (fun q => c1_7 (Int32.toInt_inj.mp (q.symm.trans (by decide))))] at ht1
  by_cases c1_8 : c = (124 : Int32)
  · rw [if_pos (by rw [c1_8]; decide)] at ht1
    obtain rfl : t1 = 84 := by omega
    refine V_iconst (pc := 84) (v := 0) dX1_levelOf_84 (by decide) ?_
    refine V_iret (pc := 85) dX1_levelOf_85 rfl rfl ?_
    subst_vars
    exact h
  rw [if_neg (fun q => c1_8 (Int32.toInt_inj.mp (q.symm.trans (by decide))))] at ht1
  obtain rfl : t1 = 94 := by omega
  refine V_iconst (pc := 94) (v := 5) dX1_levelOf_94 (by decide) ?_
  refine V_iret (pc := 95) dX1_levelOf_95 rfl rfl ?_
  have e : lvOf c = 5 := by unfold lvOf; rw [if_neg (by assumption), if_neg (by assumption), if_neg (fun q => by rcases q with q | q | q <;> exact absurd q (by assumption)), if_neg (fun q => by rcases q with q | q <;> exact absurd q (by assumption)), if_neg (fun q => by rcases q with q | q <;> exact absurd q (by assumption))]
  rw [e] at h
  exact h
/-- what goes on touches: what is ahead, where it begins, where it ends -/
def fg (ct : Nat → Nat) (S S2 : pS) : Prop := fr (fun b => b = ct 0) S S2 ∧ ∀ f, (f < 33 ∨ 35 < f) → gI S2 f (ct 0) = gI S f (ct 0)
theorem fg.rf {ct : Nat → Nat} {S : pS} : fg ct S S := ⟨fr.rf, fun _ _ => rfl⟩
theorem fg.up {ct : Nat → Nat} {S S2 : pS} (h : fg ct S S2) {f : Nat} (hf : 33 ≤ f ∧ f ≤ 35) (v : Int32) : fg ct S (sI S2 f (ct 0) v) := ⟨h.1.sI rfl f v, fun g hg => by rw [gI_sI, if_neg (by omega)]; exact h.2 g hg⟩
theorem fg.r {ct : Nat → Nat} {S S2 : pS} (h : fg ct S S2) : fr (rT ct) S S2 := h.1.mono (fun a q => Or.inl q)
theorem sI_ff (S : pS) (f a : Nat) (v w : Int32) : sI (sI S f a v) f a w = sI S f a w := by
  unfold sI
  simp only [gI, gR, Prod.mk.injEq, true_and, and_true]
  rw [va_up_self, bx_uu, bx_uu]
