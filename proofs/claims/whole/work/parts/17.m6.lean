/-! ===== the model: sets ===== -/
def bi : Option Nat → Int32
  | none => -1
  | some j => nI j
/-- the lightest of a set, of the first k weights -/
def fbst (σ : Nat → Int32) (L : Nat) : Nat → Option Nat
  | 0 => none
  | k + 1 => match fbst σ L k with
    | none => if L.testBit k = true then some k else none
    | some j => if L.testBit k = true ∧ σ (14 + 4 * k + 2) < σ (14 + 4 * j + 2) then some k else some j
theorem fbst_mem (σ : Nat → Int32) (L : Nat) : ∀ k j, fbst σ L k = some j → j < k ∧ L.testBit j = true
  | 0, j, h => by cases h
  | k + 1, j, h => by
    unfold fbst at h
    have ih := fbst_mem σ L k
    split at h
    · split at h
      · rename_i q; cases h; exact ⟨by omega, q⟩
      · cases h
    · rename_i j2 e
      split at h
      · rename_i q; cases h; exact ⟨by omega, q.1⟩
      · cases h; have := ih j e; exact ⟨by omega, this.2⟩
theorem fbst_none (σ : Nat → Int32) (L : Nat) : ∀ k, fbst σ L k = none → ∀ i, i < k → L.testBit i = false
  | 0, _, i, hi => absurd hi (Nat.not_lt_zero i)
  | k + 1, h, i, hi => by
    unfold fbst at h
    have ih := fbst_none σ L k
    split at h
    · rename_i e
      split at h
      · cases h
      · rename_i q
        by_cases hk : i = k
        · subst hk; simpa using q
        · exact ih e i (by omega)
    · split at h <;> cases h
theorem fbst_some {σ : Nat → Int32} {L n : Nat} (h0 : L ≠ 0) (hL : L < 2 ^ n) : ∃ j, fbst σ L n = some j ∧ j < n ∧ L.testBit j = true := by
  cases h : fbst σ L n with
  | some j => exact ⟨j, rfl, fbst_mem σ L n j h⟩
  | none =>
    exfalso
    apply h0
    apply Nat.eq_of_testBit_eq
    intro i
    rw [Nat.zero_testBit]
    by_cases hi : i < n
    · exact fbst_none σ L n h i hi
    · exact Nat.testBit_lt_two_pow (Nat.lt_of_lt_of_le hL (Nat.pow_le_pow_right (by decide) (by omega)))
theorem bit_le {L j : Nat} (h : L.testBit j = true) : 2 ^ j ≤ L := by
  rcases Nat.lt_or_ge L (2 ^ j) with q | q
  · rw [Nat.testBit_lt_two_pow q] at h; cases h
  · exact q
/-- how far a set can weigh -/
def fcan (σ : Nat → Int32) (n : Nat) : Nat → Nat → Int32 → Int32
  | 0, _, most => most
  | f + 1, L, most => if L = 0 then most else match fbst σ L n with
    | none => most
    | some j => if most + 1 < σ (14 + 4 * j + 2) then most else fcan σ n f (L - 2 ^ j) (most + σ (14 + 4 * j + 2))
theorem p2_10 {n : Nat} (h : n ≤ 10) : 2 ^ n ≤ 1024 := (Nat.pow_le_pow_right (by decide) h : 2 ^ n ≤ 2 ^ 10)
theorem bi_neg {o : Option Nat} {N : Nat} (ho : ∀ j, o = some j → j < N) (hN : N < 2 ^ 31) : (bi o < 0 ↔ o = none) := by
  cases o with
  | none => exact ⟨fun _ => rfl, fun _ => by decide⟩
  | some j => exact ⟨fun h => absurd h (nI_pos (by have := ho j rfl; omega)), fun h => by cases h⟩
set_option maxRecDepth 100000 in
set_option maxHeartbeats 4000000 in
theorem m_canBy_I {x : pX} {d : Nat} {S : pS} {m : Nat} {as : Nat → Nat} {A : Nat → Nat → Int32} {F : Nat → Int32} {b : Nat × Nat} {Q : Int32 → pS → Prop} (hM : MF S m as) {n L : Nat} {set most : Int32} (hn : A 288 0 = nI n) (hn10 : n ≤ 10) (hL : L < 1024) (h : V x (d + 2) M_X9_canBy (qi Q) b 72 [(0, .ref m), (1, .int set), (2, .int (nI L)), (3, .int most), (4, .int (bi (fbst (A 288) L n)))] [] (mP S m as A F)) : ∀ (c k : Nat), k + c = n → V x (d + 2) M_X9_canBy (qi Q) b 14 [(0, .ref m), (1, .int set), (2, .int (nI L)), (3, .int most), (4, .int (bi (fbst (A 288) L k))), (5, .int (nI k))] [] (mP S m as A F) := by
  intro c
  induction c with
  | zero =>
    intro k hk 
    refine V_il (pc := 14) dX9_canBy_14 rfl ?_
    refine V_aln (pc := 16) dX9_canBy_16 rfl rfl ?_
    refine M_gr (pc := 17) hM 0 288 dX9_canBy_17 (FL_X9_7 rfl) rfl rfl (by decide) ?_
    refine V_iconst (pc := 20) (v := 0) dX9_canBy_20 (by decide) ?_
    refine M_ia (pc := 21) hM 288 0 dX9_canBy_21 (by decide) (by decide) (by simp only [fa_lit, nI_add, pk_mul]) (by show (_ : Nat) < 3154; omega) ?_
    refine V_cge (pc := 22) (t := 72) dX9_canBy_22 (by decide) (fun h22 => ?_) (fun h22 => ?_)
    · obtain rfl : k = n := by omega
      refine V_lp [0, 1, 2, 3, 4] (ls' := [(0, .ref m), (1, .int set), (2, .int (nI L)), (3, .int most), (4, .int (bi (fbst (A 288) L k)))]) rfl ?_
      exact h
    · exact absurd (by rw [hn]; exact nI_le (by omega) (by omega)) h22
  | succ c ih =>
    intro k hk 
    refine V_il (pc := 14) dX9_canBy_14 rfl ?_
    refine V_aln (pc := 16) dX9_canBy_16 rfl rfl ?_
    refine M_gr (pc := 17) hM 0 288 dX9_canBy_17 (FL_X9_7 rfl) rfl rfl (by decide) ?_
    refine V_iconst (pc := 20) (v := 0) dX9_canBy_20 (by decide) ?_
    refine M_ia (pc := 21) hM 288 0 dX9_canBy_21 (by decide) (by decide) (by simp only [fa_lit, nI_add, pk_mul]) (by show (_ : Nat) < 3154; omega) ?_
    refine V_cge (pc := 22) (t := 72) dX9_canBy_22 (by decide) (fun h22 => ?_) (fun h22 => ?_)
    · exact absurd h22 (by rw [hn]; exact nI_ge (by omega) (by omega))
    · refine V_iln (pc := 25) dX9_canBy_25 rfl rfl ?_
      refine V_il (pc := 26) dX9_canBy_26 rfl ?_
      refine V_ishr (pc := 28) dX9_canBy_28 ?_
      refine V_iconst (pc := 29) (v := 1) dX9_canBy_29 (by decide) ?_
      refine V_iand (pc := 30) dX9_canBy_30 ?_
      refine V_iconst (pc := 31) (v := 1) dX9_canBy_31 (by decide) ?_
      refine V_cne (pc := 32) (t := 62) dX9_canBy_32 (by decide) (fun h32 => ?_) (fun h32 => ?_)
      · have hb : ¬ L.testBit k = true := fun q => h32 ((sb_bit (by omega) (by omega)).mpr q)
        have hB : fbst (A 288) L (k + 1) = fbst (A 288) L k := by
          show (match fbst (A 288) L k with | none => _ | some j => _) = _
          cases fbst (A 288) L k with
          | none => exact if_neg hb
          | some j => exact if_neg (fun q => hb q.1)
        refine V_il (pc := 62) dX9_canBy_62 rfl ?_
        refine V_is (pc := 64) (fun y => [(0, .ref m), (1, .int set), (2, .int (nI L)), (3, .int most), (4, .int y), (5, .int (nI k))]) dX9_canBy_64 (by decide) (fun _ => rfl) (fun y64 ey64 => ?_)
        refine V_inc (pc := 66) (fun y => [(0, .ref m), (1, .int set), (2, .int (nI L)), (3, .int most), (4, .int y64), (5, .int y)]) (w := 1) dX9_canBy_66 (by decide) (by decide) rfl (fun _ => rfl) (fun y66 ey66 => ?_)
        obtain rfl : y66 = nI (k + 1) := by rw [ey66]; exact nI_1 _
        refine V_goto (pc := 69) (t := 14) dX9_canBy_69 (by decide) ?_
        obtain rfl : y64 = bi (fbst (A 288) L (k + 1)) := by rw [ey64, hB]
        exact ih (k + 1) (by omega)
      · have hb : L.testBit k = true := (sb_bit (by omega) (by omega)).mp h32
        refine V_il (pc := 35) dX9_canBy_35 rfl ?_
        refine V_lt (pc := 37) (t := 57) dX9_canBy_37 (by decide) (fun h37 => ?_) (fun h37 => ?_)
        · have hN := (bi_neg (N := 10) (fun j hj => by have := (fbst_mem (A 288) L k j hj).1; omega) (by decide)).mp h37
          have hB : fbst (A 288) L (k + 1) = some k := by
            show (match fbst (A 288) L k with | none => _ | some j => _) = _
            rw [hN]; exact if_pos hb
          refine V_il (pc := 57) dX9_canBy_57 rfl ?_
          refine V_goto (pc := 59) (t := 64) dX9_canBy_59 (by decide) ?_
          refine V_is (pc := 64) (fun y => [(0, .ref m), (1, .int set), (2, .int (nI L)), (3, .int most), (4, .int y), (5, .int (nI k))]) dX9_canBy_64 (by decide) (fun _ => rfl) (fun y64 ey64 => ?_)
          refine V_inc (pc := 66) (fun y => [(0, .ref m), (1, .int set), (2, .int (nI L)), (3, .int most), (4, .int y64), (5, .int y)]) (w := 1) dX9_canBy_66 (by decide) (by decide) rfl (fun _ => rfl) (fun y66 ey66 => ?_)
          obtain rfl : y66 = nI (k + 1) := by rw [ey66]; exact nI_1 _
          refine V_goto (pc := 69) (t := 14) dX9_canBy_69 (by decide) ?_
          obtain rfl : y64 = bi (fbst (A 288) L (k + 1)) := by rw [ey64, hB]; rfl
          exact ih (k + 1) (by omega)
        · obtain ⟨j, hj⟩ : ∃ j, fbst (A 288) L k = some j := by
            cases e : fbst (A 288) L k with
            | none => rw [e] at h37; exact absurd (by decide) h37
            | some j => exact ⟨j, rfl⟩
          have hj2 := (fbst_mem (A 288) L k j hj).1
          have e4 : bi (fbst (A 288) L k) = nI j := by rw [hj]; rfl
          rw [e4]
          refine V_aln (pc := 40) dX9_canBy_40 rfl rfl ?_
          refine V_il (pc := 41) dX9_canBy_41 rfl ?_
          refine V_iconst (pc := 43) (v := 2) dX9_canBy_43 (by decide) ?_
          refine V_cVi0 (pc := 44) (jc_X9_67 dX9_canBy_44 rfl) rfl rfl (Nat.le_of_ble_eq_true rfl) (mF_k hM) ?_
          refine m_of hM (i := k) (j := 2) (by omega) ?_
          refine V_aln (pc := 47) dX9_canBy_47 rfl rfl ?_
          refine V_il (pc := 48) dX9_canBy_48 rfl ?_
          refine V_iconst (pc := 50) (v := 2) dX9_canBy_50 (by decide) ?_
          refine V_cVi0 (pc := 51) (jc_X9_67 dX9_canBy_51 rfl) rfl rfl (Nat.le_of_ble_eq_true rfl) (mF_k hM) ?_
          refine m_of hM (i := j) (j := 2) (by omega) ?_
          refine V_cge (pc := 54) (t := 62) dX9_canBy_54 (by decide) (fun h54 => ?_) (fun h54 => ?_)
          · have hB : fbst (A 288) L (k + 1) = fbst (A 288) L k := by
              show (match fbst (A 288) L k with | none => _ | some j => _) = _
              rw [hj]; exact if_neg (fun q => absurd q.2 (Int32.not_lt.mpr h54))
            refine V_il (pc := 62) dX9_canBy_62 rfl ?_
            refine V_is (pc := 64) (fun y => [(0, .ref m), (1, .int set), (2, .int (nI L)), (3, .int most), (4, .int y), (5, .int (nI k))]) dX9_canBy_64 (by decide) (fun _ => rfl) (fun y64 ey64 => ?_)
            refine V_inc (pc := 66) (fun y => [(0, .ref m), (1, .int set), (2, .int (nI L)), (3, .int most), (4, .int y64), (5, .int y)]) (w := 1) dX9_canBy_66 (by decide) (by decide) rfl (fun _ => rfl) (fun y66 ey66 => ?_)
            obtain rfl : y66 = nI (k + 1) := by rw [ey66]; exact nI_1 _
            refine V_goto (pc := 69) (t := 14) dX9_canBy_69 (by decide) ?_
            obtain rfl : y64 = bi (fbst (A 288) L (k + 1)) := by rw [ey64, hB]; exact e4.symm
            exact ih (k + 1) (by omega)
          · have hB : fbst (A 288) L (k + 1) = some k := by
              show (match fbst (A 288) L k with | none => _ | some j => _) = _
              rw [hj]; exact if_pos ⟨hb, Int32.not_le.mp h54⟩
            refine V_il (pc := 57) dX9_canBy_57 rfl ?_
            refine V_goto (pc := 59) (t := 64) dX9_canBy_59 (by decide) ?_
            refine V_is (pc := 64) (fun y => [(0, .ref m), (1, .int set), (2, .int (nI L)), (3, .int most), (4, .int y), (5, .int (nI k))]) dX9_canBy_64 (by decide) (fun _ => rfl) (fun y64 ey64 => ?_)
            refine V_inc (pc := 66) (fun y => [(0, .ref m), (1, .int set), (2, .int (nI L)), (3, .int most), (4, .int y64), (5, .int y)]) (w := 1) dX9_canBy_66 (by decide) (by decide) rfl (fun _ => rfl) (fun y66 ey66 => ?_)
            obtain rfl : y66 = nI (k + 1) := by rw [ey66]; exact nI_1 _
            refine V_goto (pc := 69) (t := 14) dX9_canBy_69 (by decide) ?_
            obtain rfl : y64 = bi (fbst (A 288) L (k + 1)) := by rw [ey64, hB]; rfl
            exact ih (k + 1) (by omega)
set_option maxRecDepth 100000 in
set_option maxHeartbeats 4000000 in
theorem m_canBy_O {x : pX} {d : Nat} {S : pS} {m : Nat} {as : Nat → Nat} {A : Nat → Nat → Int32} {F : Nat → Int32} {b : Nat × Nat} {Q : Int32 → pS → Prop} (hM : MF S m as) {n : Nat} {set : Int32} (hn : A 288 0 = nI n) (hn10 : n ≤ 10) : ∀ (f L : Nat) (most : Int32), L < f → L < 2 ^ n → Q (fcan (A 288) n f L most) (mP S m as A F) → V x (d + 2) M_X9_canBy (qi Q) b 4 [(0, .ref m), (1, .int set), (2, .int (nI L)), (3, .int most)] [] (mP S m as A F) := by
  have hp := p2_10 hn10
  intro f
  induction f with
  | zero => intro L most h; exact absurd h (Nat.not_lt_zero L)
  | succ f ih =>
    intro L most hf hL h
    refine V_iln (pc := 4) dX9_canBy_4 rfl rfl ?_
    refine V_eq (pc := 5) (t := 109) dX9_canBy_5 (by decide) (fun h5 => ?_) (fun h5 => ?_)
    · have h0 : L = 0 := (nI_eq (by omega) (by decide)).mp h5
      unfold fcan at h; rw [if_pos h0] at h
      refine V_iln (pc := 109) dX9_canBy_109 rfl rfl ?_
      refine V_iret (pc := 110) dX9_canBy_110 rfl rfl ?_
      exact h
    · have h0 : L ≠ 0 := fun q => h5 (by rw [q]; rfl)
      obtain ⟨j, hj, hjn, hjb⟩ := fbst_some (σ := A 288) h0 hL
      unfold fcan at h; rw [if_neg h0, hj] at h
      refine V_iconst (pc := 8) (v := (-1)) dX9_canBy_8 (by decide) ?_
      refine V_is (pc := 9) (fun y => [(0, .ref m), (1, .int set), (2, .int (nI L)), (3, .int most), (4, .int y)]) dX9_canBy_9 (by decide) (fun _ => rfl) (fun y9 ey9 => ?_)
      refine V_iconst (pc := 11) (v := 0) dX9_canBy_11 (by decide) ?_
      refine V_is (pc := 12) (fun y => [(0, .ref m), (1, .int set), (2, .int (nI L)), (3, .int most), (4, .int y9), (5, .int y)]) dX9_canBy_12 (by decide) (fun _ => rfl) (fun y12 ey12 => ?_)
      obtain rfl : y12 = nI 0 := ey12
      subst ey9
      refine m_canBy_I (L := L) hM hn hn10 (by omega) ?_ n 0 (by omega)
      have e4 : bi (fbst (A 288) L n) = nI j := by rw [hj]; rfl
      rw [e4]
      refine V_aln (pc := 72) dX9_canBy_72 rfl rfl ?_
      refine V_il (pc := 73) dX9_canBy_73 rfl ?_
      refine V_iconst (pc := 75) (v := 2) dX9_canBy_75 (by decide) ?_
      refine V_cVi0 (pc := 76) (jc_X9_67 dX9_canBy_76 rfl) rfl rfl (Nat.le_of_ble_eq_true rfl) (mF_k hM) ?_
      refine m_of hM (i := j) (j := 2) (by omega) ?_
      refine V_iln (pc := 79) dX9_canBy_79 rfl rfl ?_
      refine V_iconst (pc := 80) (v := 1) dX9_canBy_80 (by decide) ?_
      refine V_iadd (pc := 81) dX9_canBy_81 ?_
      refine V_cle (pc := 82) (t := 87) dX9_canBy_82 (by decide) (fun h82 => ?_) (fun h82 => ?_)
      · have h : Q (fcan (A 288) n f (L - 2 ^ j) (most + A 288 (14 + 4 * j + 2))) (mP S m as A F) := by
          dsimp only at h
          rw [if_neg (Int32.not_lt.mpr h82)] at h; exact h
        refine V_iln (pc := 87) dX9_canBy_87 rfl rfl ?_
        refine V_aln (pc := 88) dX9_canBy_88 rfl rfl ?_
        refine V_il (pc := 89) dX9_canBy_89 rfl ?_
        refine V_iconst (pc := 91) (v := 2) dX9_canBy_91 (by decide) ?_
        refine V_cVi0 (pc := 92) (jc_X9_67 dX9_canBy_92 rfl) rfl rfl (Nat.le_of_ble_eq_true rfl) (mF_k hM) ?_
        refine m_of hM (i := j) (j := 2) (by omega) ?_
        refine V_iadd (pc := 95) dX9_canBy_95 ?_
        refine V_isn (pc := 96) (fun y => [(0, .ref m), (1, .int set), (2, .int (nI L)), (3, .int y), (4, .int (nI j))]) dX9_canBy_96 rfl (by decide) (fun _ => rfl) (fun y96 ey96 => ?_)
        refine V_iln (pc := 97) dX9_canBy_97 rfl rfl ?_
        refine V_iconst (pc := 98) (v := 1) dX9_canBy_98 (by decide) ?_
        refine V_il (pc := 99) dX9_canBy_99 rfl ?_
        refine V_ishl (pc := 101) dX9_canBy_101 ?_
        refine V_iconst (pc := 102) (v := (-1)) dX9_canBy_102 (by decide) ?_
        refine V_ixor (pc := 103) dX9_canBy_103 ?_
        refine V_iand (pc := 104) dX9_canBy_104 ?_
        refine V_isn (pc := 105) (fun y => [(0, .ref m), (1, .int set), (2, .int y), (3, .int y96), (4, .int (nI j))]) dX9_canBy_105 rfl (by decide) (fun _ => rfl) (fun y105 ey105 => ?_)
        refine V_goto (pc := 106) (t := 4) dX9_canBy_106 (by decide) ?_
        refine V_lp [0, 1, 2, 3] (ls' := [(0, .ref m), (1, .int set), (2, .int y105), (3, .int y96)]) rfl ?_
        subst ey96
        obtain rfl : y105 = nI (L - 2 ^ j) := by rw [ey105]; exact clr_bit j (by omega) L (by omega) hjb
        exact ih (L - 2 ^ j) _ (by have := bit_le hjb; have := Nat.two_pow_pos j; omega) (Nat.lt_of_le_of_lt (Nat.sub_le _ _) hL) h
      · have h : Q most (mP S m as A F) := by
          dsimp only at h
          rw [if_pos (Int32.not_le.mp h82)] at h; exact h
        refine V_iln (pc := 85) dX9_canBy_85 rfl rfl ?_
        refine V_iret (pc := 86) dX9_canBy_86 rfl rfl ?_
        exact h
set_option maxRecDepth 100000 in
set_option maxHeartbeats 4000000 in
theorem m_canBy {x : pX} {d : Nat} {S : pS} {m : Nat} {as : Nat → Nat} {A : Nat → Nat → Int32} {F : Nat → Int32} {Q : Int32 → pS → Prop} (hM : MF S m as) {n L : Nat} (hn : A 288 0 = nI n) (hn10 : n ≤ 10) (hL : L < 2 ^ n) (h : Q (fcan (A 288) n 1024 L 0) (mP S m as A F)) : PI x (d + 2) M_X9_canBy [.ref m, .int (nI L)] (mP S m as A F) Q := by
  refine PM_of (by decide +kernel) (Nat.le_of_ble_eq_true rfl) ?_
  show V x (d + 2) M_X9_canBy (qi Q) (0, 0) 0 [(0, .ref m), (1, .int (nI L))] [] (mP S m as A F)
  refine V_iln (pc := 0) dX9_canBy_0 rfl rfl ?_
  refine V_isn (pc := 1) (fun y => [(0, .ref m), (1, .int (nI L)), (2, .int y)]) dX9_canBy_1 rfl (by decide) (fun _ => rfl) (fun y1 ey1 => ?_)
  subst ey1
  refine V_iconst (pc := 2) (v := 0) dX9_canBy_2 (by decide) ?_
  refine V_isn (pc := 3) (fun y => [(0, .ref m), (1, .int (nI L)), (2, .int (nI L)), (3, .int y)]) dX9_canBy_3 rfl (by decide) (fun _ => rfl) (fun y3 ey3 => ?_)
  obtain rfl : y3 = nI 0 := ey3
  exact m_canBy_O hM hn hn10 1024 L 0 (by have := p2_10 hn10; omega) hL h
def o_can (σ : Nat → Int32) (n : Nat) (set : Int32) : Int32 := if 0 ≤ set.toInt ∧ set.toInt < ((2 ^ n : Nat) : Int) then fcan σ n 1024 set.toNatClampNeg 0 else -1000000001
set_option maxRecDepth 100000 in
set_option maxHeartbeats 4000000 in
theorem M_canWeigh {x : pX} {d : Nat} {S : pS} {m : Nat} {as : Nat → Nat} {A : Nat → Nat → Int32} {F : Nat → Int32} {Q : Int32 → pS → Prop} (hM : MF S m as) {n nt np : Nat} {set : Int32} (hI : MI (A 288) n nt np) (h : Q (o_can (A 288) n set) (mP S m as A F)) : PI x (d + 3) M_X9_canWeigh [.ref m, .int set] (mP S m as A F) Q := by
  have hn10 := hI.1.2
  unfold o_can at h
  refine PM_of (by decide +kernel) (Nat.le_of_ble_eq_true rfl) ?_
  show V x (d + 3) M_X9_canWeigh (qi Q) (0, 0) 0 [(0, .ref m), (1, .int set)] [] (mP S m as A F)
  refine V_aln (pc := 0) dX9_canWeigh_0 rfl rfl ?_
  refine V_iln (pc := 1) dX9_canWeigh_1 rfl rfl ?_
  refine V_cVi0 (pc := 2) (jc_X9_136 dX9_canWeigh_2 rfl) rfl rfl (Nat.le_of_ble_eq_true rfl) (mF_k hM) ?_
  refine m_isSet hM hI.1.1 hn10 (fun L hL eL tL cL => ?_) (fun nL => ?_)
  · subst eL
    rw [if_pos (by omega), cL] at h
    refine V_eq (pc := 5) (t := 16) dX9_canWeigh_5 (by decide) (fun h => absurd h (by decide)) (fun _ => ?_)
    refine V_aln (pc := 8) dX9_canWeigh_8 rfl rfl ?_
    refine V_iln (pc := 9) dX9_canWeigh_9 rfl rfl ?_
    refine V_cVi0 (pc := 10) (jc_X9_182 dX9_canWeigh_10 rfl) rfl rfl (Nat.le_of_ble_eq_true rfl) (mF_k hM) ?_
    refine m_canBy hM hI.1.1 hn10 hL ?_
    refine V_goto (pc := 13) (t := 18) dX9_canWeigh_13 (by decide) ?_
    refine V_iret (pc := 18) dX9_canWeigh_18 rfl rfl ?_
    exact h
  · rw [if_neg (by omega)] at h
    refine V_eq (pc := 5) (t := 16) dX9_canWeigh_5 (by decide) (fun _ => ?_) (fun h => absurd h (by decide))
    refine V_ldc (pc := 16) dX9_canWeigh_16 (KC_X9_82 rfl) ?_
    refine V_iret (pc := 18) dX9_canWeigh_18 rfl rfl ?_
    exact h
def fones (L : Nat) : Nat → Nat
  | 0 => 0
  | k + 1 => fones L k + L / 2 ^ k % 2
theorem fones_le (L : Nat) : ∀ k, fones L k ≤ k
  | 0 => Nat.le_refl _
  | k + 1 => by have := fones_le L k; have := Nat.mod_lt (L / 2 ^ k) (y := 2) (by decide); unfold fones; omega
set_option maxRecDepth 100000 in
set_option maxHeartbeats 4000000 in
theorem m_ones_L {x : pX} {d : Nat} {S : pS} {b : Nat × Nat} {Q : Int32 → pS → Prop} {L : Nat} (hL : L < 2 ^ 31) (h : Q (nI (fones L 10)) S) : ∀ (c k : Nat), k + c = 10 → V x (d + 1) M_X9_ones (qi Q) b 4 [(0, .int (nI L)), (1, .int (nI (fones L k))), (2, .int (nI k))] [] S := by
  intro c
  induction c with
  | zero =>
    intro k hk 
    refine V_iln (pc := 4) dX9_ones_4 rfl rfl ?_
    refine V_bipush (pc := 5) (v := 10) dX9_ones_5 (by decide) ?_
    refine V_cge (pc := 7) (t := 24) dX9_ones_7 (by decide) (fun h7 => ?_) (fun h7 => ?_)
    · refine V_iln (pc := 24) dX9_ones_24 rfl rfl ?_
      refine V_iret (pc := 25) dX9_ones_25 rfl rfl ?_
      obtain rfl : k = 10 := by omega
      exact h
    · exact absurd (nI_le (a := 10) (by omega) (by omega)) h7
  | succ c ih =>
    intro k hk 
    refine V_iln (pc := 4) dX9_ones_4 rfl rfl ?_
    refine V_bipush (pc := 5) (v := 10) dX9_ones_5 (by decide) ?_
    refine V_cge (pc := 7) (t := 24) dX9_ones_7 (by decide) (fun h7 => ?_) (fun h7 => ?_)
    · exact absurd h7 (nI_ge (b := 10) (by omega) (by decide))
    · refine V_iln (pc := 10) dX9_ones_10 rfl rfl ?_
      refine V_iln (pc := 11) dX9_ones_11 rfl rfl ?_
      refine V_iln (pc := 12) dX9_ones_12 rfl rfl ?_
      refine V_ishr (pc := 13) dX9_ones_13 ?_
      refine V_iconst (pc := 14) (v := 1) dX9_ones_14 (by decide) ?_
      refine V_iand (pc := 15) dX9_ones_15 ?_
      refine V_iadd (pc := 16) dX9_ones_16 ?_
      refine V_isn (pc := 17) (fun y => [(0, .int (nI L)), (1, .int y), (2, .int (nI k))]) dX9_ones_17 rfl (by decide) (fun _ => rfl) (fun y17 ey17 => ?_)
      obtain rfl : y17 = nI (fones L (k + 1)) := by rw [ey17]; rw [show ((nI L >>> (nI k &&& 31)) &&& 1) = nI (L / 2 ^ k % 2) from sb_eq hL (by omega)]; exact nI_add _ _
      refine V_inc (pc := 18) (fun y => [(0, .int (nI L)), (1, .int (nI (fones L (k + 1)))), (2, .int y)]) (w := 1) dX9_ones_18 (by decide) (by decide) rfl (fun _ => rfl) (fun y18 ey18 => ?_)
      obtain rfl : y18 = nI (k + 1) := by rw [ey18]; exact nI_1 _
      refine V_goto (pc := 21) (t := 4) dX9_ones_21 (by decide) ?_
      exact ih (k + 1) (by omega)
set_option maxRecDepth 100000 in
set_option maxHeartbeats 4000000 in
theorem m_ones {x : pX} {d : Nat} {S : pS} {Q : Int32 → pS → Prop} {L : Nat} (hL : L < 2 ^ 31) (h : Q (nI (fones L 10)) S) : PI x (d + 1) M_X9_ones [.int (nI L)] S Q := by
  refine PM_of (by decide +kernel) (Nat.le_of_ble_eq_true rfl) ?_
  show V x (d + 1) M_X9_ones (qi Q) (0, 0) 0 [(0, .int (nI L))] [] S
  refine V_iconst (pc := 0) (v := 0) dX9_ones_0 (by decide) ?_
  refine V_isn (pc := 1) (fun y => [(0, .int (nI L)), (1, .int y)]) dX9_ones_1 rfl (by decide) (fun _ => rfl) (fun y1 ey1 => ?_)
  obtain rfl : y1 = nI 0 := ey1
  refine V_iconst (pc := 2) (v := 0) dX9_ones_2 (by decide) ?_
  refine V_isn (pc := 3) (fun y => [(0, .int (nI L)), (1, .int (nI 0)), (2, .int y)]) dX9_ones_3 rfl (by decide) (fun _ => rfl) (fun y3 ey3 => ?_)
  obtain rfl : y3 = nI 0 := ey3
  exact m_ones_L hL h 10 0 (by omega)
/-- the smallest set that can weigh up to v, of the first k sets -/
def fsm (σ : Nat → Int32) (n : Nat) (v : Int32) : Nat → Option Nat
  | 0 => none
  | k + 1 => match fsm σ n v k with
    | none => if v ≤ fcan σ n 1024 k 0 then some k else none
    | some b => if fones k 10 < fones b 10 ∧ v ≤ fcan σ n 1024 k 0 then some k else some b
theorem fsm_lt (σ : Nat → Int32) (n : Nat) (v : Int32) : ∀ k j, fsm σ n v k = some j → j < k
  | 0, j, h => by cases h
  | k + 1, j, h => by
    unfold fsm at h
    have ih := fsm_lt σ n v k
    split at h
    · split at h
      · cases h; omega
      · cases h
    · rename_i b e
      split at h
      · cases h; omega
      · cases h; have := ih j e; omega
def orN : Option Nat → Int32
  | none => -1000000005
  | some j => nI j
theorem orN_bi {o : Option Nat} {N : Nat} (ho : ∀ j, o = some j → j < N) (hN : N < 2 ^ 31) : (if bi o < 0 then -1000000005 else bi o) = orN o := by
  cases o with
  | none => rfl
  | some j => exact if_neg (nI_pos (by have := ho j rfl; omega))
def o_smallest (σ : Nat → Int32) (n : Nat) (v : Int32) : Int32 := if 1 ≤ v.toInt ∧ v.toInt ≤ 999 then orN (fsm σ n v (2 ^ n)) else -1000000001

set_option maxRecDepth 100000 in
set_option maxHeartbeats 4000000 in
theorem m_smallest_L {x : pX} {d : Nat} {S : pS} {m : Nat} {as : Nat → Nat} {A : Nat → Nat → Int32} {F : Nat → Int32} {b : Nat × Nat} {Q : Int32 → pS → Prop} (hM : MF S m as) {n : Nat} {v : Int32} (hn : A 288 0 = nI n) (hn10 : n ≤ 10) (h : Q (orN (fsm (A 288) n v (2 ^ n))) (mP S m as A F)) : ∀ (c k : Nat), k + c = 2 ^ n → V x (d + 3) M_X9_smallest (qi Q) b 19 [(0, .ref m), (1, .int v), (2, .int (bi (fsm (A 288) n v k))), (3, .int (nI k))] [] (mP S m as A F) := by
  intro c
  induction c with
  | zero =>
    intro k hk 
    have hp := p2_10 hn10
    refine V_iln (pc := 19) dX9_smallest_19 rfl rfl ?_
    refine V_iconst (pc := 20) (v := 1) dX9_smallest_20 (by decide) ?_
    refine V_aln (pc := 21) dX9_smallest_21 rfl rfl ?_
    refine M_gr (pc := 22) hM 0 288 dX9_smallest_22 (FL_X9_7 rfl) rfl rfl (by decide) ?_
    refine V_iconst (pc := 25) (v := 0) dX9_smallest_25 (by decide) ?_
    refine M_ia (pc := 26) hM 288 0 dX9_smallest_26 (by decide) (by decide) (by simp only [fa_lit, nI_add, pk_mul]) (by show (_ : Nat) < 3154; omega) ?_
    refine V_ishl (pc := 27) dX9_smallest_27 ?_
    refine V_cge (pc := 28) (t := 63) dX9_smallest_28 (by decide) (fun h28 => ?_) (fun h28 => ?_)
    · refine V_iln (pc := 63) dX9_smallest_63 rfl rfl ?_
      refine V_cSi0 (pc := 64) (jc_X9_188 dX9_smallest_64 rfl) rfl rfl (Nat.le_of_ble_eq_true rfl) ?_
      obtain rfl : k = 2 ^ n := by omega
      refine m_orNone ?_
      rw [orN_bi (N := 1024) (fun j hj => by have := fsm_lt _ _ _ _ j hj; omega) (by decide)]
      refine V_iret (pc := 67) dX9_smallest_67 rfl rfl ?_
      exact h
    · exact absurd (by rw [hn, shl1 hn10]; exact nI_le (by omega) (by omega)) h28
  | succ c ih =>
    intro k hk 
    have hp := p2_10 hn10
    refine V_iln (pc := 19) dX9_smallest_19 rfl rfl ?_
    refine V_iconst (pc := 20) (v := 1) dX9_smallest_20 (by decide) ?_
    refine V_aln (pc := 21) dX9_smallest_21 rfl rfl ?_
    refine M_gr (pc := 22) hM 0 288 dX9_smallest_22 (FL_X9_7 rfl) rfl rfl (by decide) ?_
    refine V_iconst (pc := 25) (v := 0) dX9_smallest_25 (by decide) ?_
    refine M_ia (pc := 26) hM 288 0 dX9_smallest_26 (by decide) (by decide) (by simp only [fa_lit, nI_add, pk_mul]) (by show (_ : Nat) < 3154; omega) ?_
    refine V_ishl (pc := 27) dX9_smallest_27 ?_
    refine V_cge (pc := 28) (t := 63) dX9_smallest_28 (by decide) (fun h28 => ?_) (fun h28 => ?_)
    · exact absurd h28 (by rw [hn, shl1 hn10]; exact nI_ge (by omega) (by omega))
    · refine V_iln (pc := 31) dX9_smallest_31 rfl rfl ?_
      refine V_lt (pc := 32) (t := 46) dX9_smallest_32 (by decide) (fun h32 => ?_) (fun h32 => ?_)
      · have hN := (bi_neg (N := 1024) (fun j hj => by have := fsm_lt _ _ _ _ j hj; omega) (by decide)).mp h32
        rw [hN]
        refine V_aln (pc := 46) dX9_smallest_46 rfl rfl ?_
        refine V_iln (pc := 47) dX9_smallest_47 rfl rfl ?_
        refine V_cVi0 (pc := 48) (jc_X9_182 dX9_smallest_48 rfl) rfl rfl (Nat.le_of_ble_eq_true rfl) (mF_k hM) ?_
        refine m_canBy hM hn hn10 (by omega) ?_
        refine V_iln (pc := 51) dX9_smallest_51 rfl rfl ?_
        refine V_clt (pc := 52) (t := 57) dX9_smallest_52 (by decide) (fun h52 => ?_) (fun h52 => ?_)
        · refine V_inc (pc := 57) (fun y => [(0, .ref m), (1, .int v), (2, .int (bi none)), (3, .int y)]) (w := 1) dX9_smallest_57 (by decide) (by decide) rfl (fun _ => rfl) (fun y57 ey57 => ?_)
          obtain rfl : y57 = nI (k + 1) := by rw [ey57]; exact nI_1 _
          refine V_goto (pc := 60) (t := 19) dX9_smallest_60 (by decide) ?_
          have hB : fsm (A 288) n v (k + 1) = none := by
            show (match fsm (A 288) n v k with | none => _ | some b => _) = _
            rw [hN]; exact if_neg (Int32.not_le.mpr h52)
          have q := ih (k + 1) (by omega)
          rw [hB] at q
          exact q
        · refine V_iln (pc := 55) dX9_smallest_55 rfl rfl ?_
          refine V_isn (pc := 56) (fun y => [(0, .ref m), (1, .int v), (2, .int y), (3, .int (nI k))]) dX9_smallest_56 rfl (by decide) (fun _ => rfl) (fun y56 ey56 => ?_)
          subst ey56
          refine V_inc (pc := 57) (fun y => [(0, .ref m), (1, .int v), (2, .int (nI k)), (3, .int y)]) (w := 1) dX9_smallest_57 (by decide) (by decide) rfl (fun _ => rfl) (fun y57 ey57 => ?_)
          obtain rfl : y57 = nI (k + 1) := by rw [ey57]; exact nI_1 _
          refine V_goto (pc := 60) (t := 19) dX9_smallest_60 (by decide) ?_
          have hB : fsm (A 288) n v (k + 1) = some k := by
            show (match fsm (A 288) n v k with | none => _ | some b => _) = _
            rw [hN]; exact if_pos (Int32.not_lt.mp h52)
          have q := ih (k + 1) (by omega)
          rw [hB] at q
          exact q
      · obtain ⟨j, hj⟩ : ∃ j, fsm (A 288) n v k = some j := by
          cases e : fsm (A 288) n v k with
          | none => rw [e] at h32; exact absurd (by decide) h32
          | some j => exact ⟨j, rfl⟩
        have hj2 := fsm_lt _ _ _ _ j hj
        have e4 : bi (fsm (A 288) n v k) = nI j := by rw [hj]; rfl
        rw [e4]
        refine V_iln (pc := 35) dX9_smallest_35 rfl rfl ?_
        refine V_cSi0 (pc := 36) (jc_X9_185 dX9_smallest_36 rfl) rfl rfl (Nat.le_of_ble_eq_true rfl) ?_
        refine m_ones (by omega) ?_
        refine V_iln (pc := 39) dX9_smallest_39 rfl rfl ?_
        refine V_cSi0 (pc := 40) (jc_X9_185 dX9_smallest_40 rfl) rfl rfl (Nat.le_of_ble_eq_true rfl) ?_
        refine m_ones (by omega) ?_
        refine V_cge (pc := 43) (t := 57) dX9_smallest_43 (by decide) (fun h43 => ?_) (fun h43 => ?_)
        · have hB : fsm (A 288) n v (k + 1) = some j := by
            show (match fsm (A 288) n v k with | none => _ | some b => _) = _
            rw [hj]; exact if_neg (fun q => absurd ((nI_ltI (by have := fones_le k 10; omega) (by have := fones_le j 10; omega)).mpr q.1) (Int32.not_lt.mpr h43))
          refine V_inc (pc := 57) (fun y => [(0, .ref m), (1, .int v), (2, .int (nI j)), (3, .int y)]) (w := 1) dX9_smallest_57 (by decide) (by decide) rfl (fun _ => rfl) (fun y57 ey57 => ?_)
          obtain rfl : y57 = nI (k + 1) := by rw [ey57]; exact nI_1 _
          refine V_goto (pc := 60) (t := 19) dX9_smallest_60 (by decide) ?_
          have q := ih (k + 1) (by omega)
          rw [hB] at q
          exact q
        · have ho := (nI_ltI (by have := fones_le k 10; omega) (by have := fones_le j 10; omega)).mp (Int32.not_le.mp h43)
          refine V_aln (pc := 46) dX9_smallest_46 rfl rfl ?_
          refine V_iln (pc := 47) dX9_smallest_47 rfl rfl ?_
          refine V_cVi0 (pc := 48) (jc_X9_182 dX9_smallest_48 rfl) rfl rfl (Nat.le_of_ble_eq_true rfl) (mF_k hM) ?_
          refine m_canBy hM hn hn10 (by omega) ?_
          refine V_iln (pc := 51) dX9_smallest_51 rfl rfl ?_
          refine V_clt (pc := 52) (t := 57) dX9_smallest_52 (by decide) (fun h52 => ?_) (fun h52 => ?_)
          · refine V_inc (pc := 57) (fun y => [(0, .ref m), (1, .int v), (2, .int (nI j)), (3, .int y)]) (w := 1) dX9_smallest_57 (by decide) (by decide) rfl (fun _ => rfl) (fun y57 ey57 => ?_)
            obtain rfl : y57 = nI (k + 1) := by rw [ey57]; exact nI_1 _
            refine V_goto (pc := 60) (t := 19) dX9_smallest_60 (by decide) ?_
            have hB : fsm (A 288) n v (k + 1) = some j := by
              show (match fsm (A 288) n v k with | none => _ | some b => _) = _
              rw [hj]; exact if_neg (fun q => absurd q.2 (Int32.not_le.mpr h52))
            have q := ih (k + 1) (by omega)
            rw [hB] at q
            exact q
          · refine V_iln (pc := 55) dX9_smallest_55 rfl rfl ?_
            refine V_isn (pc := 56) (fun y => [(0, .ref m), (1, .int v), (2, .int y), (3, .int (nI k))]) dX9_smallest_56 rfl (by decide) (fun _ => rfl) (fun y56 ey56 => ?_)
            subst ey56
            refine V_inc (pc := 57) (fun y => [(0, .ref m), (1, .int v), (2, .int (nI k)), (3, .int y)]) (w := 1) dX9_smallest_57 (by decide) (by decide) rfl (fun _ => rfl) (fun y57 ey57 => ?_)
            obtain rfl : y57 = nI (k + 1) := by rw [ey57]; exact nI_1 _
            refine V_goto (pc := 60) (t := 19) dX9_smallest_60 (by decide) ?_
            have hB : fsm (A 288) n v (k + 1) = some k := by
              show (match fsm (A 288) n v k with | none => _ | some b => _) = _
              rw [hj]; exact if_pos ⟨ho, Int32.not_lt.mp h52⟩
            have q := ih (k + 1) (by omega)
            rw [hB] at q
            exact q
set_option maxRecDepth 100000 in
set_option maxHeartbeats 4000000 in
theorem M_smallest {x : pX} {d : Nat} {S : pS} {m : Nat} {as : Nat → Nat} {A : Nat → Nat → Int32} {F : Nat → Int32} {Q : Int32 → pS → Prop} (hM : MF S m as) {n nt np : Nat} {v : Int32} (hI : MI (A 288) n nt np) (h : Q (o_smallest (A 288) n v) (mP S m as A F)) : PI x (d + 3) M_X9_smallest [.ref m, .int v] (mP S m as A F) Q := by
  have hn10 := hI.1.2
  unfold o_smallest at h
  refine PM_of (by decide +kernel) (Nat.le_of_ble_eq_true rfl) ?_
  show V x (d + 3) M_X9_smallest (qi Q) (0, 0) 0 [(0, .ref m), (1, .int v)] [] (mP S m as A F)
  refine V_iln (pc := 0) dX9_smallest_0 rfl rfl ?_
  refine V_i2l (pc := 1) dX9_smallest_1 ?_
  refine V_lconst (pc := 2) (v := 1) dX9_smallest_2 (by decide) ?_
  refine V_ldc2 (pc := 3) dX9_smallest_3 (KC_X9_80 rfl) ?_
  refine V_cSi0 (pc := 6) (jc_X9_62 dX9_smallest_6 rfl) rfl rfl (Nat.le_of_ble_eq_true rfl) ?_
  refine m_isIn (l := 1) 1 999 (by decide) (by decide) (fun a1 a2 => ?_) (fun a0 => ?_)
  · refine V_ne (pc := 9) (t := 15) dX9_smallest_9 (by decide) (fun _ => ?_) (fun h => absurd h (by decide))
    refine V_iconst (pc := 15) (v := (-1)) dX9_smallest_15 (by decide) ?_
    refine V_isn (pc := 16) (fun y => [(0, .ref m), (1, .int v), (2, .int y)]) dX9_smallest_16 rfl (by decide) (fun _ => rfl) (fun y16 ey16 => ?_)
    refine V_iconst (pc := 17) (v := 0) dX9_smallest_17 (by decide) ?_
    refine V_isn (pc := 18) (fun y => [(0, .ref m), (1, .int v), (2, .int y16), (3, .int y)]) dX9_smallest_18 rfl (by decide) (fun _ => rfl) (fun y18 ey18 => ?_)
    obtain rfl : y18 = nI 0 := ey18
    rw [if_pos (by omega)] at h
    subst ey16
    exact m_smallest_L hM hI.1.1 hn10 h (2 ^ n) 0 (by omega)
  · refine V_ne (pc := 9) (t := 15) dX9_smallest_9 (by decide) (fun h => absurd h (by decide)) (fun _ => ?_)
    refine V_ldc (pc := 12) dX9_smallest_12 (KC_X9_82 rfl) ?_
    refine V_iret (pc := 14) dX9_smallest_14 rfl rfl ?_
    rw [if_neg (by omega)] at h
    exact h
/-- the set for a sale, of the sets from 1 to k: the set, its grains -/
def fgn (σ : Nat → Int32) (n : Nat) (g : Int32) : Nat → Option Nat × Int32
  | 0 => (none, 0)
  | k + 1 => if fsum σ (nI (k + 1)) 1 n = g ∧ ((fgn σ n g k).1 = none ∨ fsum σ (nI (k + 1)) 2 n < (fgn σ n g k).2) then (some (k + 1), fsum σ (nI (k + 1)) 2 n) else fgn σ n g k
theorem fgn_lt (σ : Nat → Int32) (n : Nat) (g : Int32) : ∀ k j, (fgn σ n g k).1 = some j → j < k + 1
  | 0, j, h => by cases h
  | k + 1, j, h => by
    unfold fgn at h
    have ih := fgn_lt σ n g k
    split at h
    · cases h; omega
    · have := ih j h; omega
def o_gain (σ : Nat → Int32) (n : Nat) (g what : Int32) : Int32 := if 1 ≤ g.toInt ∧ g.toInt ≤ 9990 ∧ 0 ≤ what.toInt ∧ what.toInt ≤ 1 then (if (fgn σ n g (2 ^ n - 1)).1 = none then -1000000005 else if what = 0 then g - (fgn σ n g (2 ^ n - 1)).2 else bi (fgn σ n g (2 ^ n - 1)).1) else -1000000001
set_option maxRecDepth 100000 in
set_option maxHeartbeats 4000000 in
theorem m_gain_L {x : pX} {d : Nat} {S : pS} {m : Nat} {as : Nat → Nat} {A : Nat → Nat → Int32} {F : Nat → Int32} {b : Nat × Nat} {Q : Int32 → pS → Prop} (hM : MF S m as) {n : Nat} {g what : Int32} (hn : A 288 0 = nI n) (hn10 : n ≤ 10) (h : Q (if (fgn (A 288) n g (2 ^ n - 1)).1 = none then -1000000005 else if what = 0 then g - (fgn (A 288) n g (2 ^ n - 1)).2 else bi (fgn (A 288) n g (2 ^ n - 1)).1) (mP S m as A F)) : ∀ (c k : Nat), k + c = 2 ^ n - 1 → V x (d + 3) M_X9_gain (qi Q) b 33 [(0, .ref m), (1, .int g), (2, .int what), (3, .int (bi (fgn (A 288) n g k).1)), (4, .int ((fgn (A 288) n g k).2)), (5, .int (nI (k + 1)))] [] (mP S m as A F) := by
  intro c
  induction c with
  | zero =>
    intro k hk 
    have hp := p2_10 hn10
    have hp2 := Nat.two_pow_pos n
    refine V_il (pc := 33) dX9_gain_33 rfl ?_
    refine V_iconst (pc := 35) (v := 1) dX9_gain_35 (by decide) ?_
    refine V_aln (pc := 36) dX9_gain_36 rfl rfl ?_
    refine M_gr (pc := 37) hM 0 288 dX9_gain_37 (FL_X9_7 rfl) rfl rfl (by decide) ?_
    refine V_iconst (pc := 40) (v := 0) dX9_gain_40 (by decide) ?_
    refine M_ia (pc := 41) hM 288 0 dX9_gain_41 (by decide) (by decide) (by simp only [fa_lit, nI_add, pk_mul]) (by show (_ : Nat) < 3154; omega) ?_
    refine V_ishl (pc := 42) dX9_gain_42 ?_
    refine V_cge (pc := 43) (t := 90) dX9_gain_43 (by decide) (fun h43 => ?_) (fun h43 => ?_)
    · obtain rfl : k = 2 ^ n - 1 := by omega
      refine V_iln (pc := 90) dX9_gain_90 rfl rfl ?_
      refine V_ge (pc := 91) (t := 99) dX9_gain_91 (by decide) (fun h91 => ?_) (fun h91 => ?_)
      · rw [if_neg (fun q => absurd ((bi_neg (N := 1025) (fun j hj => by have := fgn_lt _ _ _ _ j hj; omega) (by decide)).mpr q) (Int32.not_lt.mpr h91))] at h
        refine V_iln (pc := 99) dX9_gain_99 rfl rfl ?_
        refine V_ne (pc := 100) (t := 110) dX9_gain_100 (by decide) (fun h100 => ?_) (fun h100 => ?_)
        · rw [if_neg h100] at h
          refine V_iln (pc := 110) dX9_gain_110 rfl rfl ?_
          refine V_iret (pc := 111) dX9_gain_111 rfl rfl ?_
          exact h
        · rw [if_pos h100] at h
          refine V_iln (pc := 103) dX9_gain_103 rfl rfl ?_
          refine V_il (pc := 104) dX9_gain_104 rfl ?_
          refine V_isub (pc := 106) dX9_gain_106 ?_
          refine V_goto (pc := 107) (t := 111) dX9_gain_107 (by decide) ?_
          refine V_iret (pc := 111) dX9_gain_111 rfl rfl ?_
          exact h
      · rw [if_pos ((bi_neg (N := 1025) (fun j hj => by have := fgn_lt _ _ _ _ j hj; omega) (by decide)).mp (Int32.not_le.mp h91))] at h
        refine V_ldc (pc := 94) dX9_gain_94 (KC_X9_61 rfl) ?_
        refine V_goto (pc := 96) (t := 111) dX9_gain_96 (by decide) ?_
        refine V_iret (pc := 111) dX9_gain_111 rfl rfl ?_
        exact h
    · exact absurd (by rw [hn, shl1 hn10]; exact nI_le (by omega) (by omega)) h43
  | succ c ih =>
    intro k hk 
    have hp := p2_10 hn10
    have hp2 := Nat.two_pow_pos n
    refine V_il (pc := 33) dX9_gain_33 rfl ?_
    refine V_iconst (pc := 35) (v := 1) dX9_gain_35 (by decide) ?_
    refine V_aln (pc := 36) dX9_gain_36 rfl rfl ?_
    refine M_gr (pc := 37) hM 0 288 dX9_gain_37 (FL_X9_7 rfl) rfl rfl (by decide) ?_
    refine V_iconst (pc := 40) (v := 0) dX9_gain_40 (by decide) ?_
    refine M_ia (pc := 41) hM 288 0 dX9_gain_41 (by decide) (by decide) (by simp only [fa_lit, nI_add, pk_mul]) (by show (_ : Nat) < 3154; omega) ?_
    refine V_ishl (pc := 42) dX9_gain_42 ?_
    refine V_cge (pc := 43) (t := 90) dX9_gain_43 (by decide) (fun h43 => ?_) (fun h43 => ?_)
    · exact absurd h43 (by rw [hn, shl1 hn10]; exact nI_ge (by omega) (by omega))
    · refine V_aln (pc := 46) dX9_gain_46 rfl rfl ?_
      refine V_il (pc := 47) dX9_gain_47 rfl ?_
      refine V_iconst (pc := 49) (v := 1) dX9_gain_49 (by decide) ?_
      refine V_cVi0 (pc := 50) (jc_X9_71 dX9_gain_50 rfl) rfl rfl (Nat.le_of_ble_eq_true rfl) (mF_k hM) ?_
      refine m_sumOf hM hn hn10 (j := 1) (by decide) ?_
      refine V_iln (pc := 53) dX9_gain_53 rfl rfl ?_
      refine V_cne (pc := 54) (t := 84) dX9_gain_54 (by decide) (fun h54 => ?_) (fun h54 => ?_)
      · have hB : fgn (A 288) n g (k + 1) = fgn (A 288) n g k := by show (if _ then _ else _) = _; rw [if_neg (fun q => h54 q.1)]
        refine V_inc (pc := 84) (fun y => [(0, .ref m), (1, .int g), (2, .int what), (3, .int (bi (fgn (A 288) n g k).1)), (4, .int ((fgn (A 288) n g k).2)), (5, .int y)]) (w := 1) dX9_gain_84 (by decide) (by decide) rfl (fun _ => rfl) (fun y84 ey84 => ?_)
        obtain rfl : y84 = nI ((k + 1) + 1) := by rw [ey84]; exact nI_1 _
        refine V_goto (pc := 87) (t := 33) dX9_gain_87 (by decide) ?_
        refine V_lp [0, 1, 2, 3, 4, 5] (ls' := [(0, .ref m), (1, .int g), (2, .int what), (3, .int (bi (fgn (A 288) n g k).1)), (4, .int ((fgn (A 288) n g k).2)), (5, .int (nI ((k + 1) + 1)))]) rfl ?_
        have q := ih (k + 1) (by omega)
        rw [hB] at q
        exact q
      · refine V_aln (pc := 57) dX9_gain_57 rfl rfl ?_
        refine V_il (pc := 58) dX9_gain_58 rfl ?_
        refine V_iconst (pc := 60) (v := 2) dX9_gain_60 (by decide) ?_
        refine V_cVi0 (pc := 61) (jc_X9_71 dX9_gain_61 rfl) rfl rfl (Nat.le_of_ble_eq_true rfl) (mF_k hM) ?_
        refine m_sumOf hM hn hn10 (j := 2) (by decide) ?_
        refine V_is (pc := 64) (fun y => [(0, .ref m), (1, .int g), (2, .int what), (3, .int (bi (fgn (A 288) n g k).1)), (4, .int ((fgn (A 288) n g k).2)), (5, .int (nI (k + 1))), (6, .int y)]) dX9_gain_64 (by decide) (fun _ => rfl) (fun y64 ey64 => ?_)
        refine V_iln (pc := 66) dX9_gain_66 rfl rfl ?_
        refine V_lt (pc := 67) (t := 77) dX9_gain_67 (by decide) (fun h67 => ?_) (fun h67 => ?_)
        · have hB : fgn (A 288) n g (k + 1) = (some (k + 1), fsum (A 288) (nI (k + 1)) 2 n) := by show (if _ then _ else _) = _; rw [if_pos ⟨h54, Or.inl ((bi_neg (N := 1025) (fun j hj => by have := fgn_lt _ _ _ _ j hj; omega) (by decide)).mp h67)⟩]
          refine V_il (pc := 77) dX9_gain_77 rfl ?_
          refine V_isn (pc := 79) (fun y => [(0, .ref m), (1, .int g), (2, .int what), (3, .int y), (4, .int ((fgn (A 288) n g k).2)), (5, .int (nI (k + 1))), (6, .int y64)]) dX9_gain_79 rfl (by decide) (fun _ => rfl) (fun y79 ey79 => ?_)
          subst ey79
          refine V_il (pc := 80) dX9_gain_80 rfl ?_
          refine V_is (pc := 82) (fun y => [(0, .ref m), (1, .int g), (2, .int what), (3, .int (nI (k + 1))), (4, .int y), (5, .int (nI (k + 1))), (6, .int y64)]) dX9_gain_82 (by decide) (fun _ => rfl) (fun y82 ey82 => ?_)
          refine V_inc (pc := 84) (fun y => [(0, .ref m), (1, .int g), (2, .int what), (3, .int (nI (k + 1))), (4, .int y82), (5, .int y), (6, .int y64)]) (w := 1) dX9_gain_84 (by decide) (by decide) rfl (fun _ => rfl) (fun y84 ey84 => ?_)
          obtain rfl : y84 = nI ((k + 1) + 1) := by rw [ey84]; exact nI_1 _
          refine V_goto (pc := 87) (t := 33) dX9_gain_87 (by decide) ?_
          refine V_lp [0, 1, 2, 3, 4, 5] (ls' := [(0, .ref m), (1, .int g), (2, .int what), (3, .int (nI (k + 1))), (4, .int y82), (5, .int (nI ((k + 1) + 1)))]) rfl ?_
          subst ey82
          subst ey64
          have q := ih (k + 1) (by omega)
          rw [hB] at q
          exact q
        · refine V_il (pc := 70) dX9_gain_70 rfl ?_
          refine V_il (pc := 72) dX9_gain_72 rfl ?_
          refine V_cge (pc := 74) (t := 84) dX9_gain_74 (by decide) (fun h74 => ?_) (fun h74 => ?_)
          · have hB : fgn (A 288) n g (k + 1) = fgn (A 288) n g k := by show (if _ then _ else _) = _; rw [if_neg (fun q => q.2.elim (fun z => h67 ((bi_neg (N := 1025) (fun j hj => by have := fgn_lt _ _ _ _ j hj; omega) (by decide)).mpr z)) (fun z => absurd z (Int32.not_lt.mpr (by rw [← ey64]; exact h74))))]
            refine V_inc (pc := 84) (fun y => [(0, .ref m), (1, .int g), (2, .int what), (3, .int (bi (fgn (A 288) n g k).1)), (4, .int ((fgn (A 288) n g k).2)), (5, .int y), (6, .int y64)]) (w := 1) dX9_gain_84 (by decide) (by decide) rfl (fun _ => rfl) (fun y84 ey84 => ?_)
            obtain rfl : y84 = nI ((k + 1) + 1) := by rw [ey84]; exact nI_1 _
            refine V_goto (pc := 87) (t := 33) dX9_gain_87 (by decide) ?_
            refine V_lp [0, 1, 2, 3, 4, 5] (ls' := [(0, .ref m), (1, .int g), (2, .int what), (3, .int (bi (fgn (A 288) n g k).1)), (4, .int ((fgn (A 288) n g k).2)), (5, .int (nI ((k + 1) + 1)))]) rfl ?_
            have q := ih (k + 1) (by omega)
            rw [hB] at q
            exact q
          · have hB : fgn (A 288) n g (k + 1) = (some (k + 1), fsum (A 288) (nI (k + 1)) 2 n) := by show (if _ then _ else _) = _; rw [if_pos ⟨h54, Or.inr (by rw [← ey64]; exact Int32.not_le.mp h74)⟩]
            refine V_il (pc := 77) dX9_gain_77 rfl ?_
            refine V_isn (pc := 79) (fun y => [(0, .ref m), (1, .int g), (2, .int what), (3, .int y), (4, .int ((fgn (A 288) n g k).2)), (5, .int (nI (k + 1))), (6, .int y64)]) dX9_gain_79 rfl (by decide) (fun _ => rfl) (fun y79 ey79 => ?_)
            subst ey79
            refine V_il (pc := 80) dX9_gain_80 rfl ?_
            refine V_is (pc := 82) (fun y => [(0, .ref m), (1, .int g), (2, .int what), (3, .int (nI (k + 1))), (4, .int y), (5, .int (nI (k + 1))), (6, .int y64)]) dX9_gain_82 (by decide) (fun _ => rfl) (fun y82 ey82 => ?_)
            refine V_inc (pc := 84) (fun y => [(0, .ref m), (1, .int g), (2, .int what), (3, .int (nI (k + 1))), (4, .int y82), (5, .int y), (6, .int y64)]) (w := 1) dX9_gain_84 (by decide) (by decide) rfl (fun _ => rfl) (fun y84 ey84 => ?_)
            obtain rfl : y84 = nI ((k + 1) + 1) := by rw [ey84]; exact nI_1 _
            refine V_goto (pc := 87) (t := 33) dX9_gain_87 (by decide) ?_
            refine V_lp [0, 1, 2, 3, 4, 5] (ls' := [(0, .ref m), (1, .int g), (2, .int what), (3, .int (nI (k + 1))), (4, .int y82), (5, .int (nI ((k + 1) + 1)))]) rfl ?_
            subst ey82
            subst ey64
            have q := ih (k + 1) (by omega)
            rw [hB] at q
            exact q
set_option maxRecDepth 100000 in
set_option maxHeartbeats 4000000 in
theorem M_gain {x : pX} {d : Nat} {S : pS} {m : Nat} {as : Nat → Nat} {A : Nat → Nat → Int32} {F : Nat → Int32} {Q : Int32 → pS → Prop} (hM : MF S m as) {n nt np : Nat} {g what : Int32} (hI : MI (A 288) n nt np) (h : Q (o_gain (A 288) n g what) (mP S m as A F)) : PI x (d + 3) M_X9_gain [.ref m, .int g, .int what] (mP S m as A F) Q := by
  have hn10 := hI.1.2
  unfold o_gain at h
  refine PM_of (by decide +kernel) (Nat.le_of_ble_eq_true rfl) ?_
  show V x (d + 3) M_X9_gain (qi Q) (0, 0) 0 [(0, .ref m), (1, .int g), (2, .int what)] [] (mP S m as A F)
  refine V_iln (pc := 0) dX9_gain_0 rfl rfl ?_
  refine V_i2l (pc := 1) dX9_gain_1 ?_
  refine V_lconst (pc := 2) (v := 1) dX9_gain_2 (by decide) ?_
  refine V_ldc2 (pc := 3) dX9_gain_3 (KC_X9_191 rfl) ?_
  refine V_cSi0 (pc := 6) (jc_X9_62 dX9_gain_6 rfl) rfl rfl (Nat.le_of_ble_eq_true rfl) ?_
  refine m_isIn (l := 1) 1 9990 (by decide) (by decide) (fun a1 a2 => ?_) (fun a0 => ?_)
  · refine V_eq (pc := 9) (t := 22) dX9_gain_9 (by decide) (fun h => absurd h (by decide)) (fun _ => ?_)
    refine V_iln (pc := 12) dX9_gain_12 rfl rfl ?_
    refine V_i2l (pc := 13) dX9_gain_13 ?_
    refine V_lconst (pc := 14) (v := 0) dX9_gain_14 (by decide) ?_
    refine V_lconst (pc := 15) (v := 1) dX9_gain_15 (by decide) ?_
    refine V_cSi0 (pc := 16) (jc_X9_62 dX9_gain_16 rfl) rfl rfl (Nat.le_of_ble_eq_true rfl) ?_
    refine m_isIn (l := 0) 0 1 (by decide) (by decide) (fun c1 c2 => ?_) (fun c0 => ?_)
    · refine V_ne (pc := 19) (t := 25) dX9_gain_19 (by decide) (fun _ => ?_) (fun h => absurd h (by decide))
      refine V_iconst (pc := 25) (v := (-1)) dX9_gain_25 (by decide) ?_
      refine V_isn (pc := 26) (fun y => [(0, .ref m), (1, .int g), (2, .int what), (3, .int y)]) dX9_gain_26 rfl (by decide) (fun _ => rfl) (fun y26 ey26 => ?_)
      refine V_iconst (pc := 27) (v := 0) dX9_gain_27 (by decide) ?_
      refine V_is (pc := 28) (fun y => [(0, .ref m), (1, .int g), (2, .int what), (3, .int y26), (4, .int y)]) dX9_gain_28 (by decide) (fun _ => rfl) (fun y28 ey28 => ?_)
      obtain rfl : y28 = nI 0 := ey28
      refine V_iconst (pc := 30) (v := 1) dX9_gain_30 (by decide) ?_
      refine V_is (pc := 31) (fun y => [(0, .ref m), (1, .int g), (2, .int what), (3, .int y26), (4, .int (nI 0)), (5, .int y)]) dX9_gain_31 (by decide) (fun _ => rfl) (fun y31 ey31 => ?_)
      obtain rfl : y31 = nI 1 := ey31
      rw [if_pos (by omega)] at h
      subst ey26
      exact m_gain_L hM hI.1.1 hn10 h (2 ^ n - 1) 0 (by omega)
    · refine V_ne (pc := 19) (t := 25) dX9_gain_19 (by decide) (fun h => absurd h (by decide)) (fun _ => ?_)
      refine V_ldc (pc := 22) dX9_gain_22 (KC_X9_82 rfl) ?_
      refine V_iret (pc := 24) dX9_gain_24 rfl rfl ?_
      rw [if_neg (by omega)] at h
      exact h
  · refine V_eq (pc := 9) (t := 22) dX9_gain_9 (by decide) (fun _ => ?_) (fun h => absurd h (by decide))
    refine V_ldc (pc := 22) dX9_gain_22 (KC_X9_82 rfl) ?_
    refine V_iret (pc := 24) dX9_gain_24 rfl rfl ?_
    rw [if_neg (by omega)] at h
    exact h
