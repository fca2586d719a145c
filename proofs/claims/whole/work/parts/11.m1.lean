/-! ===== the model: small methods ===== -/
theorem i64_toInt (a : Int32) : a.toInt64.toInt = a.toInt := Int32.toInt_toInt64 a
theorem cmp_lt {x y : Int64} (h : lg_cmp x y < 0) : x.toInt < y.toInt := by
  unfold lg_cmp at h
  split at h
  · exact absurd h (by decide)
  · rename_i h1
    split at h
    · exact absurd h (by decide)
    · rename_i h2
      have h3 : ¬ y.toInt < x.toInt := fun q => h1 (Int64.lt_iff_toInt_lt.mpr q)
      have h4 : ¬ x.toInt = y.toInt := fun q => h2 (Int64.toInt_inj.mp q)
      omega
theorem cmp_nlt {x y : Int64} (h : ¬ lg_cmp x y < 0) : y.toInt ≤ x.toInt := by
  unfold lg_cmp at h
  split at h
  · rename_i h1
    have := Int64.lt_iff_toInt_lt.mp h1
    omega
  · split at h
    · rename_i h2
      rw [h2]
      exact Int.le_refl _
    · exact absurd (by decide) h
theorem cmp_gt {x y : Int64} (h : 0 < lg_cmp x y) : y.toInt < x.toInt := by
  unfold lg_cmp at h
  split at h
  · rename_i h1
    exact Int64.lt_iff_toInt_lt.mp h1
  · split at h
    · exact absurd h (by decide)
    · exact absurd h (by decide)
theorem cmp_ngt {x y : Int64} (h : ¬ 0 < lg_cmp x y) : x.toInt ≤ y.toInt := by
  unfold lg_cmp at h
  split at h
  · exact absurd (by decide) h
  · rename_i h1
    have h3 : ¬ y.toInt < x.toInt := fun q => h1 (Int64.lt_iff_toInt_lt.mpr q)
    omega
set_option maxHeartbeats 4000000 in
theorem m_isInL {x : pX} {d : Nat} {S : pS} {Q : Int32 → pS → Prop} {v l u : Int64} (h1 : l.toInt ≤ v.toInt → v.toInt ≤ u.toInt → Q 1 S) (h0 : ¬ (l.toInt ≤ v.toInt ∧ v.toInt ≤ u.toInt) → Q 0 S) : PI x (d + 1) M_X9_isIn [.long (v), .long (l), .long (u)] S Q := by
  refine PM_of (by decide +kernel) (Nat.le_of_ble_eq_true rfl) ?_
  show V x (d + 1) M_X9_isIn (qi Q) (0, 0) 0 [(0, .long (v)), (2, .long (l)), (4, .long (u))] [] S
  refine V_lln (pc := 0) dX9_isIn_0 rfl rfl ?_
  refine V_lln (pc := 1) dX9_isIn_1 rfl rfl ?_
  refine V_lcmp (pc := 2) dX9_isIn_2 ?_
  refine V_lt (pc := 3) (t := 17) dX9_isIn_3 (by decide) (fun h3 => ?_) (fun h3 => ?_)
  · have q := cmp_lt h3
    refine V_iconst (pc := 17) (v := 0) dX9_isIn_17 (by decide) ?_
    refine V_iret (pc := 18) dX9_isIn_18 rfl rfl ?_
    first | exact h1 q q2 | exact h0 (by omega)
  · have q := cmp_nlt h3
    refine V_lln (pc := 6) dX9_isIn_6 rfl rfl ?_
    refine V_ll (pc := 7) dX9_isIn_7 rfl ?_
    refine V_lcmp (pc := 9) dX9_isIn_9 ?_
    refine V_gt (pc := 10) (t := 17) dX9_isIn_10 (by decide) (fun h10 => ?_) (fun h10 => ?_)
    · have q2 := cmp_gt h10
      refine V_iconst (pc := 17) (v := 0) dX9_isIn_17 (by decide) ?_
      refine V_iret (pc := 18) dX9_isIn_18 rfl rfl ?_
      first | exact h1 q q2 | exact h0 (by omega)
    · have q2 := cmp_ngt h10
      refine V_iconst (pc := 13) (v := 1) dX9_isIn_13 (by decide) ?_
      refine V_goto (pc := 14) (t := 18) dX9_isIn_14 (by decide) ?_
      refine V_iret (pc := 18) dX9_isIn_18 rfl rfl ?_
      first | exact h1 q q2 | exact h0 (by omega)
theorem m_isIn {x : pX} {d : Nat} {S : pS} {Q : Int32 → pS → Prop} {a : Int32} {l u : Int64} (lo hi : Int) (hl : l.toInt = lo) (hu : u.toInt = hi) (h1 : lo ≤ a.toInt → a.toInt ≤ hi → Q 1 S) (h0 : ¬ (lo ≤ a.toInt ∧ a.toInt ≤ hi) → Q 0 S) : PI x (d + 1) M_X9_isIn [.long a.toInt64, .long l, .long u] S Q := by
  subst hl; subst hu
  refine m_isInL ?_ ?_
  · rw [i64_toInt]; exact h1
  · rw [i64_toInt]; exact h0
theorem shl1 {n : Nat} (h : n ≤ 10) : (1 : Int32) <<< (nI n &&& 31) = nI (2 ^ n) := by
  have : ∀ n : Nat, n ≤ 10 → (1 : Int32) <<< (nI n &&& 31) = nI (2 ^ n) := by decide +kernel
  exact this n h
set_option maxHeartbeats 4000000 in
theorem m_orNone {x : pX} {d : Nat} {S : pS} {Q : Int32 → pS → Prop} {v : Int32} (h : Q (if v < 0 then -1000000005 else v) S) : PI x (d + 1) M_X9_orNone [.int v] S Q := by
  refine PM_of (by decide +kernel) (Nat.le_of_ble_eq_true rfl) ?_
  show V x (d + 1) M_X9_orNone (qi Q) (0, 0) 0 [(0, .int v)] [] S
  refine V_iln (pc := 0) dX9_orNone_0 rfl rfl ?_
  refine V_ge (pc := 1) (t := 9) dX9_orNone_1 (by decide) (fun h1 => ?_) (fun h1 => ?_)
  · refine V_iln (pc := 9) dX9_orNone_9 rfl rfl ?_
    refine V_iret (pc := 10) dX9_orNone_10 rfl rfl ?_
    first | (rw [if_neg (Int32.not_lt.mpr h1)] at h; exact h) | (rw [if_pos (Int32.not_le.mp h1)] at h; exact h)
  · refine V_ldc (pc := 4) dX9_orNone_4 (KC_X9_61 rfl) ?_
    refine V_goto (pc := 6) (t := 10) dX9_orNone_6 (by decide) ?_
    refine V_iret (pc := 10) dX9_orNone_10 rfl rfl ?_
    first | (rw [if_neg (Int32.not_lt.mpr h1)] at h; exact h) | (rw [if_pos (Int32.not_le.mp h1)] at h; exact h)
/-- v held between 0 and u -/
def hld (v u : Int32) : Int32 := if v < 0 then 0 else if u < v then u else v
set_option maxHeartbeats 4000000 in
theorem m_within {x : pX} {d : Nat} {S : pS} {Q : Int32 → pS → Prop} {v u : Int32} (h : Q (hld v u) S) : PI x (d + 1) M_X9_within [.int v, .int u] S Q := by
  unfold hld at h
  refine PM_of (by decide +kernel) (Nat.le_of_ble_eq_true rfl) ?_
  show V x (d + 1) M_X9_within (qi Q) (0, 0) 0 [(0, .int v), (1, .int u)] [] S
  refine V_iln (pc := 0) dX9_within_0 rfl rfl ?_
  refine V_ge (pc := 1) (t := 8) dX9_within_1 (by decide) (fun h1 => ?_) (fun h1 => ?_)
  · rw [if_neg (Int32.not_lt.mpr h1)] at h
    refine V_iln (pc := 8) dX9_within_8 rfl rfl ?_
    refine V_iln (pc := 9) dX9_within_9 rfl rfl ?_
    refine V_cle (pc := 10) (t := 17) dX9_within_10 (by decide) (fun h10 => ?_) (fun h10 => ?_)
    · rw [if_neg (Int32.not_lt.mpr h10)] at h
      refine V_iln (pc := 17) dX9_within_17 rfl rfl ?_
      refine V_iret (pc := 18) dX9_within_18 rfl rfl ?_
      exact h
    · rw [if_pos (Int32.not_le.mp h10)] at h
      refine V_iln (pc := 13) dX9_within_13 rfl rfl ?_
      refine V_goto (pc := 14) (t := 18) dX9_within_14 (by decide) ?_
      refine V_iret (pc := 18) dX9_within_18 rfl rfl ?_
      exact h
  · rw [if_pos (Int32.not_le.mp h1)] at h
    refine V_iconst (pc := 4) (v := 0) dX9_within_4 (by decide) ?_
    refine V_goto (pc := 5) (t := 18) dX9_within_5 (by decide) ?_
    refine V_iret (pc := 18) dX9_within_18 rfl rfl ?_
    exact h
set_option maxHeartbeats 4000000 in
theorem m_textAt {x : pX} {d : Nat} {S : pS} {m : Nat} {Q : Int32 → pS → Prop} {t : Nat} (h : Q (nI (154 + 200 * t)) S) : PI x (d + 1) M_X9_textAt [.ref m, .int (nI t)] S Q := by
  refine PM_of (by decide +kernel) (Nat.le_of_ble_eq_true rfl) ?_
  show V x (d + 1) M_X9_textAt (qi Q) (0, 0) 0 [(0, .ref m), (1, .int (nI t))] [] S
  refine V_sipush (pc := 0) (v := 154) dX9_textAt_0 (by decide) ?_
  refine V_sipush (pc := 3) (v := 200) dX9_textAt_3 (by decide) ?_
  refine V_iln (pc := 6) dX9_textAt_6 rfl rfl ?_
  refine V_imul (pc := 7) dX9_textAt_7 ?_
  refine V_iadd (pc := 8) dX9_textAt_8 ?_
  refine V_iret (pc := 9) dX9_textAt_9 rfl rfl ?_
  have e : (154 + 200 * nI t : Int32) = nI (154 + 200 * t) := by simp only [fa_lit, nI_add, pk_mul]
  rw [e]; exact h
set_option maxHeartbeats 4000000 in
theorem m_of {x : pX} {d : Nat} {S : pS} {m : Nat} {as : Nat → Nat} {A : Nat → Nat → Int32} {F : Nat → Int32} {Q : Int32 → pS → Prop} (hM : MF S m as) {i j : Nat} (hi : 14 + 4 * i + j < 3154) (h : Q (A 288 (14 + 4 * i + j)) (mP S m as A F)) : PI x (d + 1) M_X9_of [.ref m, .int (nI i), .int (nI j)] (mP S m as A F) Q := by
  refine PM_of (by decide +kernel) (Nat.le_of_ble_eq_true rfl) ?_
  show V x (d + 1) M_X9_of (qi Q) (0, 0) 0 [(0, .ref m), (1, .int (nI i)), (2, .int (nI j))] [] (mP S m as A F)
  refine V_aln (pc := 0) dX9_of_0 rfl rfl ?_
  refine M_gr (pc := 1) hM 0 288 dX9_of_1 (FL_X9_7 rfl) rfl rfl (by decide) ?_
  refine V_bipush (pc := 4) (v := 14) dX9_of_4 (by decide) ?_
  refine V_iconst (pc := 6) (v := 4) dX9_of_6 (by decide) ?_
  refine V_iln (pc := 7) dX9_of_7 rfl rfl ?_
  refine V_imul (pc := 8) dX9_of_8 ?_
  refine V_iadd (pc := 9) dX9_of_9 ?_
  refine V_iln (pc := 10) dX9_of_10 rfl rfl ?_
  refine V_iadd (pc := 11) dX9_of_11 ?_
  refine M_ia (pc := 12) hM 288 ((14 + 4 * i) + j) dX9_of_12 (by decide) (by decide) (by simp only [fa_lit, nI_add, pk_mul]) (by show (_ : Nat) < 3154; omega) ?_
  refine V_iret (pc := 13) dX9_of_13 rfl rfl ?_
  exact h
set_option maxHeartbeats 4000000 in
theorem m_sets {x : pX} {d : Nat} {S : pS} {m : Nat} {as : Nat → Nat} {A : Nat → Nat → Int32} {F : Nat → Int32} {Q : pS → Prop} (hM : MF S m as) {i j : Nat} {v : Int32} (hi : 14 + 4 * i + j < 3154) (h : Q (mP S m as (uA A (upd (A 288) (14 + 4 * i + j) v)) F)) : PV x (d + 1) M_X9_sets [.ref m, .int (nI i), .int (nI j), .int v] (mP S m as A F) Q := by
  refine PM_of (by decide +kernel) (Nat.le_of_ble_eq_true rfl) ?_
  show V x (d + 1) M_X9_sets (qv Q) (0, 0) 0 [(0, .ref m), (1, .int (nI i)), (2, .int (nI j)), (3, .int v)] [] (mP S m as A F)
  refine V_aln (pc := 0) dX9_sets_0 rfl rfl ?_
  refine M_gr (pc := 1) hM 0 288 dX9_sets_1 (FL_X9_7 rfl) rfl rfl (by decide) ?_
  refine V_bipush (pc := 4) (v := 14) dX9_sets_4 (by decide) ?_
  refine V_iconst (pc := 6) (v := 4) dX9_sets_6 (by decide) ?_
  refine V_iln (pc := 7) dX9_sets_7 rfl rfl ?_
  refine V_imul (pc := 8) dX9_sets_8 ?_
  refine V_iadd (pc := 9) dX9_sets_9 ?_
  refine V_iln (pc := 10) dX9_sets_10 rfl rfl ?_
  refine V_iadd (pc := 11) dX9_sets_11 ?_
  refine V_iln (pc := 12) dX9_sets_12 rfl rfl ?_
  refine M_iasS (pc := 13) hM ((14 + 4 * i) + j) dX9_sets_13 (by simp only [fa_lit, nI_add, pk_mul]) (by show (_ : Nat) < 3154; omega) ?_
  refine V_ret (pc := 14) dX9_sets_14 rfl ?_
  exact h
set_option maxHeartbeats 4000000 in
theorem m_becomes {x : pX} {d : Nat} {S : pS} {m : Nat} {as : Nat → Nat} {A : Nat → Nat → Int32} {F : Nat → Int32} {Q : Int32 → pS → Prop} (hM : MF S m as) {k : Nat} {v : Int32} (hk : k < 3154) (h : Q (A 288 k) (mP S m as (uA A (upd (A 288) k v)) F)) : PI x (d + 1) M_X9_becomes [.ref m, .int (nI k), .int v] (mP S m as A F) Q := by
  refine PM_of (by decide +kernel) (Nat.le_of_ble_eq_true rfl) ?_
  show V x (d + 1) M_X9_becomes (qi Q) (0, 0) 0 [(0, .ref m), (1, .int (nI k)), (2, .int v)] [] (mP S m as A F)
  refine V_aln (pc := 0) dX9_becomes_0 rfl rfl ?_
  refine M_gr (pc := 1) hM 0 288 dX9_becomes_1 (FL_X9_7 rfl) rfl rfl (by decide) ?_
  refine V_iln (pc := 4) dX9_becomes_4 rfl rfl ?_
  refine M_ia (pc := 5) hM 288 k dX9_becomes_5 (by decide) (by decide) rfl (by show (_ : Nat) < 3154; omega) ?_
  refine V_isn (pc := 6) (fun y => [(0, .ref m), (1, .int (nI k)), (2, .int v), (3, .int y)]) dX9_becomes_6 rfl (by decide) (fun _ => rfl) (fun y6 ey6 => ?_)
  refine V_aln (pc := 7) dX9_becomes_7 rfl rfl ?_
  refine M_gr (pc := 8) hM 0 288 dX9_becomes_8 (FL_X9_7 rfl) rfl rfl (by decide) ?_
  refine V_iln (pc := 11) dX9_becomes_11 rfl rfl ?_
  refine V_iln (pc := 12) dX9_becomes_12 rfl rfl ?_
  refine M_iasS (pc := 13) hM k dX9_becomes_13 rfl (by show (_ : Nat) < 3154; omega) ?_
  refine V_iln (pc := 14) dX9_becomes_14 rfl rfl ?_
  refine V_iret (pc := 15) dX9_becomes_15 rfl rfl ?_
  subst ey6; exact h
set_option maxHeartbeats 4000000 in
theorem m_drawn {x : pX} {d : Nat} {S : pS} {m : Nat} {as : Nat → Nat} {A : Nat → Nat → Int32} {F : Nat → Int32} {Q : Int32 → pS → Prop} (hM : MF S m as) (h : ∀ z, z = A 288 4 * 1103515245 + 12345 → Q (z.toUInt32 >>> ((8 : Int32).toUInt32 &&& Int32.toUInt32 31)).toInt32 (mP S m as (uA A (upd (A 288) 4 z)) F)) : PI x (d + 1) M_X9_drawn [.ref m] (mP S m as A F) Q := by
  refine PM_of (by decide +kernel) (Nat.le_of_ble_eq_true rfl) ?_
  show V x (d + 1) M_X9_drawn (qi Q) (0, 0) 0 [(0, .ref m)] [] (mP S m as A F)
  refine V_aln (pc := 0) dX9_drawn_0 rfl rfl ?_
  refine M_gr (pc := 1) hM 0 288 dX9_drawn_1 (FL_X9_7 rfl) rfl rfl (by decide) ?_
  refine V_iconst (pc := 4) (v := 4) dX9_drawn_4 (by decide) ?_
  refine V_aln (pc := 5) dX9_drawn_5 rfl rfl ?_
  refine M_gr (pc := 6) hM 0 288 dX9_drawn_6 (FL_X9_7 rfl) rfl rfl (by decide) ?_
  refine V_iconst (pc := 9) (v := 4) dX9_drawn_9 (by decide) ?_
  refine M_ia (pc := 10) hM 288 4 dX9_drawn_10 (by decide) (by decide) (by simp only [fa_lit, nI_add, pk_mul]) (by show (_ : Nat) < 3154; omega) ?_
  refine V_ldc (pc := 11) dX9_drawn_11 (KC_X9_66 rfl) ?_
  refine V_imul (pc := 13) dX9_drawn_13 ?_
  refine V_sipush (pc := 14) (v := 12345) dX9_drawn_14 (by decide) ?_
  refine V_iadd (pc := 17) dX9_drawn_17 ?_
  refine M_iasS (pc := 18) hM 4 dX9_drawn_18 (by simp only [fa_lit, nI_add, pk_mul]) (by show (_ : Nat) < 3154; omega) ?_
  refine V_aln (pc := 19) dX9_drawn_19 rfl rfl ?_
  refine M_gr (pc := 20) hM 0 288 dX9_drawn_20 (FL_X9_7 rfl) rfl rfl (by decide) ?_
  refine V_iconst (pc := 23) (v := 4) dX9_drawn_23 (by decide) ?_
  refine M_ia (pc := 24) hM 288 4 dX9_drawn_24 (by decide) (by decide) (by simp only [fa_lit, nI_add, pk_mul]) (by show (_ : Nat) < 3154; omega) ?_
  refine V_bipush (pc := 25) (v := 8) dX9_drawn_25 (by decide) ?_
  refine V_iushr (pc := 27) dX9_drawn_27 ?_
  refine V_iret (pc := 28) dX9_drawn_28 rfl rfl ?_
  have e : uA A (upd (A 288) 4 (A 288 4 * 1103515245 + 12345)) 288 4 = A 288 4 * 1103515245 + 12345 := by rw [uA_at]; exact pk_us
  rw [e]; exact h _ rfl
theorem idx_of {w : Int32} {n : Nat} (hn : n < 2 ^ 30) (h1 : 0 ≤ w.toInt) (h2 : w.toInt < n) : ∃ i : Nat, i < n ∧ w = nI i ∧ (nI i).toInt = i ∧ (nI i).toNatClampNeg = i := by
  obtain ⟨j, hj, e⟩ := nI_of (x := w) (fun q => by have := Int32.lt_iff_toInt_lt.mp q; simp at this; omega)
  have hj2 := nI_toInt hj
  rw [e, hj2] at h2
  exact ⟨j, by omega, e, hj2, nI_clamp hj⟩
set_option maxHeartbeats 4000000 in
theorem m_isWeight {x : pX} {d : Nat} {S : pS} {m : Nat} {as : Nat → Nat} {A : Nat → Nat → Int32} {F : Nat → Int32} {Q : Int32 → pS → Prop} (hM : MF S m as) {w : Int32} {n : Nat} (hn : A 288 0 = nI n) (hn2 : n < 2 ^ 30) (h1 : ∀ i, i < n → w = nI i → (nI i).toInt = i → (nI i).toNatClampNeg = i → Q 1 (mP S m as A F)) (h0 : ¬ (0 ≤ w.toInt ∧ w.toInt < n) → Q 0 (mP S m as A F)) : PI x (d + 2) M_X9_isWeight [.ref m, .int w] (mP S m as A F) Q := by
  refine PM_of (by decide +kernel) (Nat.le_of_ble_eq_true rfl) ?_
  show V x (d + 2) M_X9_isWeight (qi Q) (0, 0) 0 [(0, .ref m), (1, .int w)] [] (mP S m as A F)
  refine V_iln (pc := 0) dX9_isWeight_0 rfl rfl ?_
  refine V_i2l (pc := 1) dX9_isWeight_1 ?_
  refine V_lconst (pc := 2) (v := 0) dX9_isWeight_2 (by decide) ?_
  refine V_aln (pc := 3) dX9_isWeight_3 rfl rfl ?_
  refine M_gr (pc := 4) hM 0 288 dX9_isWeight_4 (FL_X9_7 rfl) rfl rfl (by decide) ?_
  refine V_iconst (pc := 7) (v := 0) dX9_isWeight_7 (by decide) ?_
  refine M_ia (pc := 8) hM 288 0 dX9_isWeight_8 (by decide) (by decide) (by simp only [fa_lit, nI_add, pk_mul]) (by show (_ : Nat) < 3154; omega) ?_
  refine V_iconst (pc := 9) (v := 1) dX9_isWeight_9 (by decide) ?_
  refine V_isub (pc := 10) dX9_isWeight_10 ?_
  refine V_i2l (pc := 11) dX9_isWeight_11 ?_
  refine V_cSi0 (pc := 12) (jc_X9_62 dX9_isWeight_12 rfl) rfl rfl (Nat.le_of_ble_eq_true rfl) ?_
  refine m_isIn (l := 0) 0 (n - 1) (by decide) (by rw [i64_toInt, hn, show (1 : Int32) = nI 1 from rfl, pk_sub_toInt hn2 (by decide)]; rfl) (fun a b => ?_) (fun a => ?_)
  · obtain ⟨i, hi, e, e2, e3⟩ := idx_of hn2 a (by omega)
    refine V_iret dX9_isWeight_15 rfl rfl ?_
    exact h1 i hi e e2 e3
  · refine V_iret dX9_isWeight_15 rfl rfl ?_
    exact h0 (by omega)
set_option maxHeartbeats 4000000 in
theorem m_isText {x : pX} {d : Nat} {S : pS} {m : Nat} {as : Nat → Nat} {A : Nat → Nat → Int32} {F : Nat → Int32} {Q : Int32 → pS → Prop} (hM : MF S m as) {w : Int32} {n : Nat} (hn : A 288 1 = nI n) (hn2 : n < 2 ^ 30) (h1 : ∀ i, i < n → w = nI i → (nI i).toInt = i → (nI i).toNatClampNeg = i → Q 1 (mP S m as A F)) (h0 : ¬ (0 ≤ w.toInt ∧ w.toInt < n) → Q 0 (mP S m as A F)) : PI x (d + 2) M_X9_isText [.ref m, .int w] (mP S m as A F) Q := by
  refine PM_of (by decide +kernel) (Nat.le_of_ble_eq_true rfl) ?_
  show V x (d + 2) M_X9_isText (qi Q) (0, 0) 0 [(0, .ref m), (1, .int w)] [] (mP S m as A F)
  refine V_iln (pc := 0) dX9_isText_0 rfl rfl ?_
  refine V_i2l (pc := 1) dX9_isText_1 ?_
  refine V_lconst (pc := 2) (v := 0) dX9_isText_2 (by decide) ?_
  refine V_aln (pc := 3) dX9_isText_3 rfl rfl ?_
  refine M_gr (pc := 4) hM 0 288 dX9_isText_4 (FL_X9_7 rfl) rfl rfl (by decide) ?_
  refine V_iconst (pc := 7) (v := 1) dX9_isText_7 (by decide) ?_
  refine M_ia (pc := 8) hM 288 1 dX9_isText_8 (by decide) (by decide) (by simp only [fa_lit, nI_add, pk_mul]) (by show (_ : Nat) < 3154; omega) ?_
  refine V_iconst (pc := 9) (v := 1) dX9_isText_9 (by decide) ?_
  refine V_isub (pc := 10) dX9_isText_10 ?_
  refine V_i2l (pc := 11) dX9_isText_11 ?_
  refine V_cSi0 (pc := 12) (jc_X9_62 dX9_isText_12 rfl) rfl rfl (Nat.le_of_ble_eq_true rfl) ?_
  refine m_isIn (l := 0) 0 (n - 1) (by decide) (by rw [i64_toInt, hn, show (1 : Int32) = nI 1 from rfl, pk_sub_toInt hn2 (by decide)]; rfl) (fun a b => ?_) (fun a => ?_)
  · obtain ⟨i, hi, e, e2, e3⟩ := idx_of hn2 a (by omega)
    refine V_iret dX9_isText_15 rfl rfl ?_
    exact h1 i hi e e2 e3
  · refine V_iret dX9_isText_15 rfl rfl ?_
    exact h0 (by omega)
set_option maxHeartbeats 4000000 in
theorem m_isSet {x : pX} {d : Nat} {S : pS} {m : Nat} {as : Nat → Nat} {A : Nat → Nat → Int32} {F : Nat → Int32} {Q : Int32 → pS → Prop} (hM : MF S m as) {w : Int32} {n : Nat} (hn : A 288 0 = nI n) (hn2 : n ≤ 10) (h1 : ∀ i, i < 2 ^ n → w = nI i → (nI i).toInt = i → (nI i).toNatClampNeg = i → Q 1 (mP S m as A F)) (h0 : ¬ (0 ≤ w.toInt ∧ w.toInt < ((2 ^ n : Nat) : Int)) → Q 0 (mP S m as A F)) : PI x (d + 2) M_X9_isSet [.ref m, .int w] (mP S m as A F) Q := by
  have hp : 2 ^ n ≤ 2 ^ 10 := Nat.pow_le_pow_right (by decide) hn2
  refine PM_of (by decide +kernel) (Nat.le_of_ble_eq_true rfl) ?_
  show V x (d + 2) M_X9_isSet (qi Q) (0, 0) 0 [(0, .ref m), (1, .int w)] [] (mP S m as A F)
  refine V_iln (pc := 0) dX9_isSet_0 rfl rfl ?_
  refine V_i2l (pc := 1) dX9_isSet_1 ?_
  refine V_lconst (pc := 2) (v := 0) dX9_isSet_2 (by decide) ?_
  refine V_iconst (pc := 3) (v := 1) dX9_isSet_3 (by decide) ?_
  refine V_aln (pc := 4) dX9_isSet_4 rfl rfl ?_
  refine M_gr (pc := 5) hM 0 288 dX9_isSet_5 (FL_X9_7 rfl) rfl rfl (by decide) ?_
  refine V_iconst (pc := 8) (v := 0) dX9_isSet_8 (by decide) ?_
  refine M_ia (pc := 9) hM 288 0 dX9_isSet_9 (by decide) (by decide) (by simp only [fa_lit, nI_add, pk_mul]) (by show (_ : Nat) < 3154; omega) ?_
  refine V_ishl (pc := 10) dX9_isSet_10 ?_
  refine V_iconst (pc := 11) (v := 1) dX9_isSet_11 (by decide) ?_
  refine V_isub (pc := 12) dX9_isSet_12 ?_
  refine V_i2l (pc := 13) dX9_isSet_13 ?_
  refine V_cSi0 (pc := 14) (jc_X9_62 dX9_isSet_14 rfl) rfl rfl (Nat.le_of_ble_eq_true rfl) ?_
  refine m_isIn (l := 0) 0 (((2 ^ n : Nat) : Int) - 1) (by decide) (by rw [i64_toInt, hn, shl1 hn2, show (1 : Int32) = nI 1 from rfl, pk_sub_toInt (by omega) (by decide)]; rfl) (fun a b => ?_) (fun a => ?_)
  · obtain ⟨i, hi, e, e2, e3⟩ := idx_of (n := 2 ^ n) (by omega) a (by omega)
    refine V_iret dX9_isSet_17 rfl rfl ?_
    exact h1 i hi e e2 e3
  · refine V_iret dX9_isSet_17 rfl rfl ?_
    exact h0 (by omega)
