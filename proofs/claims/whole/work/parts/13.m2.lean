/-! ===== the model: sums, texts, losses ===== -/
set_option maxHeartbeats 4000000 in
theorem m_sumOf_L {x : pX} {d : Nat} {S : pS} {m : Nat} {as : Nat → Nat} {A : Nat → Nat → Int32} {F : Nat → Int32} {b : Nat × Nat} {Q : Int32 → pS → Prop} (hM : MF S m as) {n j : Nat} {set : Int32} (hn : A 288 0 = nI n) (hn10 : n ≤ 10) (hj : j < 4) (h : Q (fsum (A 288) set j n) (mP S m as A F)) : ∀ (c k : Nat), k + c = n → V x (d + 2) M_X9_sumOf (qi Q) b 5 [(0, .ref m), (1, .int set), (2, .int (nI j)), (3, .int (fsum (A 288) set j k)), (4, .int (nI k))] [] (mP S m as A F) := by
  intro c
  induction c with
  | zero =>
    intro k hk 
    obtain rfl : k = n := by omega
    refine V_il (pc := 5) dX9_sumOf_5 rfl ?_
    refine V_aln (pc := 7) dX9_sumOf_7 rfl rfl ?_
    refine M_gr (pc := 8) hM 0 288 dX9_sumOf_8 (FL_X9_7 rfl) rfl rfl (by decide) ?_
    refine V_iconst (pc := 11) (v := 0) dX9_sumOf_11 (by decide) ?_
    refine M_ia (pc := 12) hM 288 0 dX9_sumOf_12 (by decide) (by decide) (by simp only [fa_lit, nI_add, pk_mul]) (by show (_ : Nat) < 3154; omega) ?_
    refine V_cge (pc := 13) (t := 46) dX9_sumOf_13 (by decide) (fun h13 => ?_) (fun h13 => ?_)
    · refine V_iln (pc := 46) dX9_sumOf_46 rfl rfl ?_
      refine V_iret (pc := 47) dX9_sumOf_47 rfl rfl ?_
      exact h
    · exact absurd (by rw [hn]; exact nI_le (by omega) (by omega)) h13
  | succ c ih =>
    intro k hk 
    refine V_il (pc := 5) dX9_sumOf_5 rfl ?_
    refine V_aln (pc := 7) dX9_sumOf_7 rfl rfl ?_
    refine M_gr (pc := 8) hM 0 288 dX9_sumOf_8 (FL_X9_7 rfl) rfl rfl (by decide) ?_
    refine V_iconst (pc := 11) (v := 0) dX9_sumOf_11 (by decide) ?_
    refine M_ia (pc := 12) hM 288 0 dX9_sumOf_12 (by decide) (by decide) (by simp only [fa_lit, nI_add, pk_mul]) (by show (_ : Nat) < 3154; omega) ?_
    refine V_cge (pc := 13) (t := 46) dX9_sumOf_13 (by decide) (fun h13 => ?_) (fun h13 => ?_)
    · exact absurd h13 (by rw [hn]; exact nI_ge (by omega) (by omega))
    · refine V_iln (pc := 16) dX9_sumOf_16 rfl rfl ?_
      refine V_iln (pc := 17) dX9_sumOf_17 rfl rfl ?_
      refine V_il (pc := 18) dX9_sumOf_18 rfl ?_
      refine V_ishr (pc := 20) dX9_sumOf_20 ?_
      refine V_iconst (pc := 21) (v := 1) dX9_sumOf_21 (by decide) ?_
      refine V_iand (pc := 22) dX9_sumOf_22 ?_
      refine V_iconst (pc := 23) (v := 1) dX9_sumOf_23 (by decide) ?_
      refine V_cne (pc := 24) (t := 37) dX9_sumOf_24 (by decide) (fun h24 => ?_) (fun h24 => ?_)
      · refine V_iconst (pc := 37) (v := 0) dX9_sumOf_37 (by decide) ?_
        refine V_iadd (pc := 38) dX9_sumOf_38 ?_
        refine V_isn (pc := 39) (fun y => [(0, .ref m), (1, .int set), (2, .int (nI j)), (3, .int y), (4, .int (nI k))]) dX9_sumOf_39 rfl (by decide) (fun _ => rfl) (fun y39 ey39 => ?_)
        refine V_inc (pc := 40) (fun y => [(0, .ref m), (1, .int set), (2, .int (nI j)), (3, .int y39), (4, .int y)]) (w := 1) dX9_sumOf_40 (by decide) (by decide) rfl (fun _ => rfl) (fun y40 ey40 => ?_)
        obtain rfl : y40 = nI (k + 1) := by rw [ey40]; exact nI_1 _
        refine V_goto (pc := 43) (t := 5) dX9_sumOf_43 (by decide) ?_
        obtain rfl : y39 = fsum (A 288) set j (k + 1) := by rw [ey39]; show _ = _ + _; first | rw [if_pos (show sb set k = 1 from h24)] | rw [if_neg (show ¬ sb set k = 1 from h24)]
        exact ih (k + 1) (by omega)
      · refine V_aln (pc := 27) dX9_sumOf_27 rfl rfl ?_
        refine V_il (pc := 28) dX9_sumOf_28 rfl ?_
        refine V_iln (pc := 30) dX9_sumOf_30 rfl rfl ?_
        refine V_cVi0 (pc := 31) (jc_X9_67 dX9_sumOf_31 rfl) rfl rfl (Nat.le_of_ble_eq_true rfl) (mF_k hM) ?_
        refine m_of hM (i := k) (j := j) (by omega) ?_
        refine V_goto (pc := 34) (t := 38) dX9_sumOf_34 (by decide) ?_
        refine V_iadd (pc := 38) dX9_sumOf_38 ?_
        refine V_isn (pc := 39) (fun y => [(0, .ref m), (1, .int set), (2, .int (nI j)), (3, .int y), (4, .int (nI k))]) dX9_sumOf_39 rfl (by decide) (fun _ => rfl) (fun y39 ey39 => ?_)
        refine V_inc (pc := 40) (fun y => [(0, .ref m), (1, .int set), (2, .int (nI j)), (3, .int y39), (4, .int y)]) (w := 1) dX9_sumOf_40 (by decide) (by decide) rfl (fun _ => rfl) (fun y40 ey40 => ?_)
        obtain rfl : y40 = nI (k + 1) := by rw [ey40]; exact nI_1 _
        refine V_goto (pc := 43) (t := 5) dX9_sumOf_43 (by decide) ?_
        obtain rfl : y39 = fsum (A 288) set j (k + 1) := by rw [ey39]; show _ = _ + _; first | rw [if_pos (show sb set k = 1 from h24)] | rw [if_neg (show ¬ sb set k = 1 from h24)]
        exact ih (k + 1) (by omega)
set_option maxHeartbeats 4000000 in
theorem m_sumOf {x : pX} {d : Nat} {S : pS} {m : Nat} {as : Nat → Nat} {A : Nat → Nat → Int32} {F : Nat → Int32} {Q : Int32 → pS → Prop} (hM : MF S m as) {n j : Nat} {set : Int32} (hn : A 288 0 = nI n) (hn10 : n ≤ 10) (hj : j < 4) (h : Q (fsum (A 288) set j n) (mP S m as A F)) : PI x (d + 2) M_X9_sumOf [.ref m, .int set, .int (nI j)] (mP S m as A F) Q := by
  refine PM_of (by decide +kernel) (Nat.le_of_ble_eq_true rfl) ?_
  show V x (d + 2) M_X9_sumOf (qi Q) (0, 0) 0 [(0, .ref m), (1, .int set), (2, .int (nI j))] [] (mP S m as A F)
  refine V_iconst (pc := 0) (v := 0) dX9_sumOf_0 (by decide) ?_
  refine V_isn (pc := 1) (fun y => [(0, .ref m), (1, .int set), (2, .int (nI j)), (3, .int y)]) dX9_sumOf_1 rfl (by decide) (fun _ => rfl) (fun y1 ey1 => ?_)
  obtain rfl : y1 = nI 0 := ey1
  refine V_iconst (pc := 2) (v := 0) dX9_sumOf_2 (by decide) ?_
  refine V_is (pc := 3) (fun y => [(0, .ref m), (1, .int set), (2, .int (nI j)), (3, .int (nI 0)), (4, .int y)]) dX9_sumOf_3 (by decide) (fun _ => rfl) (fun y3 ey3 => ?_)
  obtain rfl : y3 = nI 0 := ey3
  exact m_sumOf_L hM hn hn10 hj h n 0 (by omega)
/-- all of n: the set of the first n -/
def allS (n : Nat) : Int32 := ((1 : Int32) <<< (nI n &&& 31)) - 1
set_option maxHeartbeats 4000000 in
theorem m_allOf {x : pX} {d : Nat} {S : pS} {m : Nat} {as : Nat → Nat} {A : Nat → Nat → Int32} {F : Nat → Int32} {Q : Int32 → pS → Prop} (hM : MF S m as) {n j : Nat} (hn : A 288 0 = nI n) (hn10 : n ≤ 10) (hj : j < 4) (h : Q (fsum (A 288) (allS n) j n) (mP S m as A F)) : PI x (d + 3) M_X9_allOf [.ref m, .int (nI j)] (mP S m as A F) Q := by
  refine PM_of (by decide +kernel) (Nat.le_of_ble_eq_true rfl) ?_
  show V x (d + 3) M_X9_allOf (qi Q) (0, 0) 0 [(0, .ref m), (1, .int (nI j))] [] (mP S m as A F)
  refine V_aln (pc := 0) dX9_allOf_0 rfl rfl ?_
  refine V_iconst (pc := 1) (v := 1) dX9_allOf_1 (by decide) ?_
  refine V_aln (pc := 2) dX9_allOf_2 rfl rfl ?_
  refine M_gr (pc := 3) hM 0 288 dX9_allOf_3 (FL_X9_7 rfl) rfl rfl (by decide) ?_
  refine V_iconst (pc := 6) (v := 0) dX9_allOf_6 (by decide) ?_
  refine M_ia (pc := 7) hM 288 0 dX9_allOf_7 (by decide) (by decide) (by simp only [fa_lit, nI_add, pk_mul]) (by show (_ : Nat) < 3154; omega) ?_
  refine V_ishl (pc := 8) dX9_allOf_8 ?_
  refine V_iconst (pc := 9) (v := 1) dX9_allOf_9 (by decide) ?_
  refine V_isub (pc := 10) dX9_allOf_10 ?_
  refine V_iln (pc := 11) dX9_allOf_11 rfl rfl ?_
  refine V_cVi0 (pc := 12) (jc_X9_71 dX9_allOf_12 rfl) rfl rfl (Nat.le_of_ble_eq_true rfl) (mF_k hM) ?_
  refine m_sumOf hM hn hn10 hj ?_
  refine V_iret (pc := 15) dX9_allOf_15 rfl rfl ?_
  rw [hn]; exact h
/-- a new weight behind the n that are there -/
def sCome (σ : Nat → Int32) (n : Nat) (kind stamp : Int32) : Nat → Int32 := upd (upd (upd (upd (upd σ 0 (nI (n + 1))) (14 + 4 * n + 0) kind) (14 + 4 * n + 1) stamp) (14 + 4 * n + 2) stamp) (14 + 4 * n + 3) 0
set_option maxHeartbeats 4000000 in
theorem m_comes {x : pX} {d : Nat} {S : pS} {m : Nat} {as : Nat → Nat} {A : Nat → Nat → Int32} {F : Nat → Int32} {Q : pS → Prop} (hM : MF S m as) {n : Nat} {kind stamp : Int32} (hn : A 288 0 = nI n) (hn10 : n < 10) (h : Q (mP S m as (uA A (sCome (A 288) n kind stamp)) F)) : PV x (d + 2) M_X9_comes [.ref m, .int kind, .int stamp] (mP S m as A F) Q := by
  refine PM_of (by decide +kernel) (Nat.le_of_ble_eq_true rfl) ?_
  show V x (d + 2) M_X9_comes (qv Q) (0, 0) 0 [(0, .ref m), (1, .int kind), (2, .int stamp)] [] (mP S m as A F)
  refine V_aln (pc := 0) dX9_comes_0 rfl rfl ?_
  refine M_gr (pc := 1) hM 0 288 dX9_comes_1 (FL_X9_7 rfl) rfl rfl (by decide) ?_
  refine V_iconst (pc := 4) (v := 0) dX9_comes_4 (by decide) ?_
  refine M_ia (pc := 5) hM 288 0 dX9_comes_5 (by decide) (by decide) (by simp only [fa_lit, nI_add, pk_mul]) (by show (_ : Nat) < 3154; omega) ?_
  refine V_isn (pc := 6) (fun y => [(0, .ref m), (1, .int kind), (2, .int stamp), (3, .int y)]) dX9_comes_6 rfl (by decide) (fun _ => rfl) (fun y6 ey6 => ?_)
  obtain rfl : y6 = nI n := by rw [ey6]; exact hn
  refine V_aln (pc := 7) dX9_comes_7 rfl rfl ?_
  refine M_gr (pc := 8) hM 0 288 dX9_comes_8 (FL_X9_7 rfl) rfl rfl (by decide) ?_
  refine V_iconst (pc := 11) (v := 0) dX9_comes_11 (by decide) ?_
  refine V_dup2 (pc := 12) dX9_comes_12 rfl rfl ?_
  refine M_ia (pc := 13) hM 288 0 dX9_comes_13 (by decide) (by decide) (by simp only [fa_lit, nI_add, pk_mul]) (by show (_ : Nat) < 3154; omega) ?_
  refine V_iconst (pc := 14) (v := 1) dX9_comes_14 (by decide) ?_
  refine V_iadd (pc := 15) dX9_comes_15 ?_
  refine M_iasS (pc := 16) hM 0 dX9_comes_16 (by simp only [fa_lit, nI_add, pk_mul]) (by show (_ : Nat) < 3154; omega) ?_
  refine V_aln (pc := 17) dX9_comes_17 rfl rfl ?_
  refine V_iln (pc := 18) dX9_comes_18 rfl rfl ?_
  refine V_iconst (pc := 19) (v := 0) dX9_comes_19 (by decide) ?_
  refine V_iln (pc := 20) dX9_comes_20 rfl rfl ?_
  refine V_cVv0 (pc := 21) (jc_X9_74 dX9_comes_21 rfl) rfl rfl (Nat.le_of_ble_eq_true rfl) (mF_k hM) ?_
  refine m_sets hM (i := n) (j := 0) (by omega) ?_
  refine V_aln (pc := 24) dX9_comes_24 rfl rfl ?_
  refine V_iln (pc := 25) dX9_comes_25 rfl rfl ?_
  refine V_iconst (pc := 26) (v := 1) dX9_comes_26 (by decide) ?_
  refine V_iln (pc := 27) dX9_comes_27 rfl rfl ?_
  refine V_cVv0 (pc := 28) (jc_X9_74 dX9_comes_28 rfl) rfl rfl (Nat.le_of_ble_eq_true rfl) (mF_k hM) ?_
  refine m_sets hM (i := n) (j := 1) (by omega) ?_
  refine V_aln (pc := 31) dX9_comes_31 rfl rfl ?_
  refine V_iln (pc := 32) dX9_comes_32 rfl rfl ?_
  refine V_iconst (pc := 33) (v := 2) dX9_comes_33 (by decide) ?_
  refine V_iln (pc := 34) dX9_comes_34 rfl rfl ?_
  refine V_cVv0 (pc := 35) (jc_X9_74 dX9_comes_35 rfl) rfl rfl (Nat.le_of_ble_eq_true rfl) (mF_k hM) ?_
  refine m_sets hM (i := n) (j := 2) (by omega) ?_
  refine V_aln (pc := 38) dX9_comes_38 rfl rfl ?_
  refine V_iln (pc := 39) dX9_comes_39 rfl rfl ?_
  refine V_iconst (pc := 40) (v := 3) dX9_comes_40 (by decide) ?_
  refine V_iconst (pc := 41) (v := 0) dX9_comes_41 (by decide) ?_
  refine V_cVv0 (pc := 42) (jc_X9_74 dX9_comes_42 rfl) rfl rfl (Nat.le_of_ble_eq_true rfl) (mF_k hM) ?_
  refine m_sets hM (i := n) (j := 3) (by omega) ?_
  refine V_ret (pc := 45) dX9_comes_45 rfl ?_
  have e : A 288 0 + 1 = nI (n + 1) := by rw [hn]; exact nI_1 n
  rw [e]
  simp only [uA_at, uA_uA]
  exact h
set_option maxHeartbeats 4000000 in
theorem m_weight {x : pX} {d : Nat} {S : pS} {m : Nat} {as : Nat → Nat} {A : Nat → Nat → Int32} {F : Nat → Int32} {Q : Int32 → pS → Prop} (hM : MF S m as) {n : Nat} {kind stamp : Int32} (hn : A 288 0 = nI n) (hn10 : n ≤ 10) (hB : ¬ (0 ≤ kind.toInt ∧ kind.toInt ≤ 5 ∧ 1 ≤ stamp.toInt ∧ stamp.toInt ≤ 999) → Q (-1000000001) (mP S m as A F)) (hF : (0 ≤ kind.toInt ∧ kind.toInt ≤ 5 ∧ 1 ≤ stamp.toInt ∧ stamp.toInt ≤ 999) → n = 10 → Q (-1000000003) (mP S m as A F)) (h : (0 ≤ kind.toInt ∧ kind.toInt ≤ 5 ∧ 1 ≤ stamp.toInt ∧ stamp.toInt ≤ 999) → n < 10 → Q (nI n) (mP S m as (uA A (sCome (A 288) n kind stamp)) F)) : PI x (d + 3) M_X9_weight [.ref m, .int kind, .int stamp] (mP S m as A F) Q := by
  refine PM_of (by decide +kernel) (Nat.le_of_ble_eq_true rfl) ?_
  show V x (d + 3) M_X9_weight (qi Q) (0, 0) 0 [(0, .ref m), (1, .int kind), (2, .int stamp)] [] (mP S m as A F)
  refine V_iln (pc := 0) dX9_weight_0 rfl rfl ?_
  refine V_i2l (pc := 1) dX9_weight_1 ?_
  refine V_lconst (pc := 2) (v := 0) dX9_weight_2 (by decide) ?_
  refine V_ldc2 (pc := 3) dX9_weight_3 (KC_X9_78 rfl) ?_
  refine V_cSi0 (pc := 6) (jc_X9_62 dX9_weight_6 rfl) rfl rfl (Nat.le_of_ble_eq_true rfl) ?_
  refine m_isIn (l := 0) 0 5 (by decide) (by decide) (fun a1 a2 => ?_) (fun a0 => ?_)
  · refine V_eq (pc := 9) (t := 24) dX9_weight_9 (by decide) (fun h => absurd h (by decide)) (fun _ => ?_)
    refine V_iln (pc := 12) dX9_weight_12 rfl rfl ?_
    refine V_i2l (pc := 13) dX9_weight_13 ?_
    refine V_lconst (pc := 14) (v := 1) dX9_weight_14 (by decide) ?_
    refine V_ldc2 (pc := 15) dX9_weight_15 (KC_X9_80 rfl) ?_
    refine V_cSi0 (pc := 18) (jc_X9_62 dX9_weight_18 rfl) rfl rfl (Nat.le_of_ble_eq_true rfl) ?_
    refine m_isIn (l := 1) 1 999 (by decide) (by decide) (fun b1 b2 => ?_) (fun b0 => ?_)
    · refine V_ne (pc := 21) (t := 27) dX9_weight_21 (by decide) (fun _ => ?_) (fun h => absurd h (by decide))
      refine V_aln (pc := 27) dX9_weight_27 rfl rfl ?_
      refine M_gr (pc := 28) hM 0 288 dX9_weight_28 (FL_X9_7 rfl) rfl rfl (by decide) ?_
      refine V_iconst (pc := 31) (v := 0) dX9_weight_31 (by decide) ?_
      refine M_ia (pc := 32) hM 288 0 dX9_weight_32 (by decide) (by decide) (by simp only [fa_lit, nI_add, pk_mul]) (by show (_ : Nat) < 3154; omega) ?_
      refine V_bipush (pc := 33) (v := 10) dX9_weight_33 (by decide) ?_
      refine V_cne (pc := 35) (t := 41) dX9_weight_35 (by decide) (fun h35 => ?_) (fun h35 => ?_)
      · have hlt : n < 10 := by
          rcases Nat.lt_or_ge n 10 with q | q
          · exact q
          · exact absurd (by rw [hn, show n = 10 by omega]; rfl) h35
        refine V_aln (pc := 41) dX9_weight_41 rfl rfl ?_
        refine V_iln (pc := 42) dX9_weight_42 rfl rfl ?_
        refine V_iln (pc := 43) dX9_weight_43 rfl rfl ?_
        refine V_cVv0 (pc := 44) (jc_X9_84 dX9_weight_44 rfl) rfl rfl (Nat.le_of_ble_eq_true rfl) (mF_k hM) ?_
        refine m_comes hM hn hlt ?_
        refine V_aln (pc := 47) dX9_weight_47 rfl rfl ?_
        refine M_gr (pc := 48) hM 0 288 dX9_weight_48 (FL_X9_7 rfl) rfl rfl (by decide) ?_
        refine V_iconst (pc := 51) (v := 0) dX9_weight_51 (by decide) ?_
        refine M_ia (pc := 52) hM 288 0 dX9_weight_52 (by decide) (by decide) (by simp only [fa_lit, nI_add, pk_mul]) (by show (_ : Nat) < 3154; omega) ?_
        refine V_iconst (pc := 53) (v := 1) dX9_weight_53 (by decide) ?_
        refine V_isub (pc := 54) dX9_weight_54 ?_
        refine V_iret (pc := 55) dX9_weight_55 rfl rfl ?_
        rw [uA_at]
        have e : sCome (A 288) n kind stamp 0 - 1 = nI n := by
          have e1 : sCome (A 288) n kind stamp 0 = nI (n + 1) := by
            unfold sCome
            rw [pk_un (by omega), pk_un (by omega), pk_un (by omega), pk_un (by omega), pk_us]
          rw [e1]; exact nI_pred n
        rw [e]; exact h ⟨a1, a2, b1, b2⟩ hlt
      · have e10 : n = 10 := (nI_eq (by omega) (by decide)).mp (by rw [← hn]; exact h35)
        refine V_ldc (pc := 38) dX9_weight_38 (KC_X9_83 rfl) ?_
        refine V_iret (pc := 40) dX9_weight_40 rfl rfl ?_
        exact hF ⟨a1, a2, b1, b2⟩ e10
    · refine V_ne (pc := 21) (t := 27) dX9_weight_21 (by decide) (fun h => absurd h (by decide)) (fun _ => ?_)
      refine V_ldc (pc := 24) dX9_weight_24 (KC_X9_82 rfl) ?_
      refine V_iret (pc := 26) dX9_weight_26 rfl rfl ?_
      exact hB (by omega)
  · refine V_eq (pc := 9) (t := 24) dX9_weight_9 (by decide) (fun _ => ?_) (fun h => absurd h (by decide))
    refine V_ldc (pc := 24) dX9_weight_24 (KC_X9_82 rfl) ?_
    refine V_iret (pc := 26) dX9_weight_26 rfl rfl ?_
    exact hB (by omega)
set_option maxHeartbeats 4000000 in
theorem m_counts_L {x : pX} {d : Nat} {S : pS} {m : Nat} {as : Nat → Nat} {A : Nat → Nat → Int32} {F : Nat → Int32} {b : Nat × Nat} {Q : Int32 → pS → Prop} (hM : MF S m as) {nt : Nat} {key : Int32} (hn : A 288 1 = nI nt) (hn14 : nt ≤ 14) (h : Q (fcnt (A 288) key nt) (mP S m as A F)) : ∀ (c k : Nat), k + c = nt → V x (d + 2) M_X9_counts (qi Q) b 4 [(0, .ref m), (1, .int key), (2, .int (fcnt (A 288) key k)), (3, .int (nI k))] [] (mP S m as A F) := by
  intro c
  induction c with
  | zero =>
    intro k hk 
    obtain rfl : k = nt := by omega
    refine V_iln (pc := 4) dX9_counts_4 rfl rfl ?_
    refine V_aln (pc := 5) dX9_counts_5 rfl rfl ?_
    refine M_gr (pc := 6) hM 0 288 dX9_counts_6 (FL_X9_7 rfl) rfl rfl (by decide) ?_
    refine V_iconst (pc := 9) (v := 1) dX9_counts_9 (by decide) ?_
    refine M_ia (pc := 10) hM 288 1 dX9_counts_10 (by decide) (by decide) (by simp only [fa_lit, nI_add, pk_mul]) (by show (_ : Nat) < 3154; omega) ?_
    refine V_cge (pc := 11) (t := 40) dX9_counts_11 (by decide) (fun h11 => ?_) (fun h11 => ?_)
    · refine V_iln (pc := 40) dX9_counts_40 rfl rfl ?_
      refine V_iret (pc := 41) dX9_counts_41 rfl rfl ?_
      exact h
    · exact absurd (by rw [hn]; exact nI_le (by omega) (by omega)) h11
  | succ c ih =>
    intro k hk 
    refine V_iln (pc := 4) dX9_counts_4 rfl rfl ?_
    refine V_aln (pc := 5) dX9_counts_5 rfl rfl ?_
    refine M_gr (pc := 6) hM 0 288 dX9_counts_6 (FL_X9_7 rfl) rfl rfl (by decide) ?_
    refine V_iconst (pc := 9) (v := 1) dX9_counts_9 (by decide) ?_
    refine M_ia (pc := 10) hM 288 1 dX9_counts_10 (by decide) (by decide) (by simp only [fa_lit, nI_add, pk_mul]) (by show (_ : Nat) < 3154; omega) ?_
    refine V_cge (pc := 11) (t := 40) dX9_counts_11 (by decide) (fun h11 => ?_) (fun h11 => ?_)
    · exact absurd h11 (by rw [hn]; exact nI_ge (by omega) (by omega))
    · refine V_aln (pc := 14) dX9_counts_14 rfl rfl ?_
      refine M_gr (pc := 15) hM 0 288 dX9_counts_15 (FL_X9_7 rfl) rfl rfl (by decide) ?_
      refine V_aln (pc := 18) dX9_counts_18 rfl rfl ?_
      refine V_iln (pc := 19) dX9_counts_19 rfl rfl ?_
      refine V_cVi0 (pc := 20) (jc_X9_280 dX9_counts_20 rfl) rfl rfl (Nat.le_of_ble_eq_true rfl) (mF_k hM) ?_
      refine m_textAt ?_
      refine M_ia (pc := 23) hM 288 (154 + 200 * k) dX9_counts_23 (by decide) (by decide) rfl (by show (_ : Nat) < 3154; omega) ?_
      refine V_iln (pc := 24) dX9_counts_24 rfl rfl ?_
      refine V_cne (pc := 25) (t := 32) dX9_counts_25 (by decide) (fun h25 => ?_) (fun h25 => ?_)
      · refine V_iln (pc := 32) dX9_counts_32 rfl rfl ?_
        refine V_isn (pc := 33) (fun y => [(0, .ref m), (1, .int key), (2, .int y), (3, .int (nI k))]) dX9_counts_33 rfl (by decide) (fun _ => rfl) (fun y33 ey33 => ?_)
        refine V_inc (pc := 34) (fun y => [(0, .ref m), (1, .int key), (2, .int y33), (3, .int y)]) (w := 1) dX9_counts_34 (by decide) (by decide) rfl (fun _ => rfl) (fun y34 ey34 => ?_)
        obtain rfl : y34 = nI (k + 1) := by rw [ey34]; exact nI_1 _
        refine V_goto (pc := 37) (t := 4) dX9_counts_37 (by decide) ?_
        obtain rfl : y33 = fcnt (A 288) key (k + 1) := by rw [ey33]; show _ = ite _ _ _; first | rw [if_pos h25] | rw [if_neg h25]
        exact ih (k + 1) (by omega)
      · refine V_iln (pc := 28) dX9_counts_28 rfl rfl ?_
        refine V_goto (pc := 29) (t := 33) dX9_counts_29 (by decide) ?_
        refine V_isn (pc := 33) (fun y => [(0, .ref m), (1, .int key), (2, .int y), (3, .int (nI k))]) dX9_counts_33 rfl (by decide) (fun _ => rfl) (fun y33 ey33 => ?_)
        refine V_inc (pc := 34) (fun y => [(0, .ref m), (1, .int key), (2, .int y33), (3, .int y)]) (w := 1) dX9_counts_34 (by decide) (by decide) rfl (fun _ => rfl) (fun y34 ey34 => ?_)
        obtain rfl : y34 = nI (k + 1) := by rw [ey34]; exact nI_1 _
        refine V_goto (pc := 37) (t := 4) dX9_counts_37 (by decide) ?_
        obtain rfl : y33 = fcnt (A 288) key (k + 1) := by rw [ey33]; show _ = ite _ _ _; first | rw [if_pos h25] | rw [if_neg h25]
        exact ih (k + 1) (by omega)
set_option maxHeartbeats 4000000 in
theorem m_counts {x : pX} {d : Nat} {S : pS} {m : Nat} {as : Nat → Nat} {A : Nat → Nat → Int32} {F : Nat → Int32} {Q : Int32 → pS → Prop} (hM : MF S m as) {nt : Nat} {key : Int32} (hn : A 288 1 = nI nt) (hn14 : nt ≤ 14) (h : Q (fcnt (A 288) key nt) (mP S m as A F)) : PI x (d + 2) M_X9_counts [.ref m, .int key] (mP S m as A F) Q := by
  refine PM_of (by decide +kernel) (Nat.le_of_ble_eq_true rfl) ?_
  show V x (d + 2) M_X9_counts (qi Q) (0, 0) 0 [(0, .ref m), (1, .int key)] [] (mP S m as A F)
  refine V_iconst (pc := 0) (v := (-1)) dX9_counts_0 (by decide) ?_
  refine V_isn (pc := 1) (fun y => [(0, .ref m), (1, .int key), (2, .int y)]) dX9_counts_1 rfl (by decide) (fun _ => rfl) (fun y1 ey1 => ?_)
  refine V_iconst (pc := 2) (v := 0) dX9_counts_2 (by decide) ?_
  refine V_isn (pc := 3) (fun y => [(0, .ref m), (1, .int key), (2, .int y1), (3, .int y)]) dX9_counts_3 rfl (by decide) (fun _ => rfl) (fun y3 ey3 => ?_)
  obtain rfl : y3 = nI 0 := ey3
  obtain rfl : y1 = fcnt (A 288) key 0 := ey1
  exact m_counts_L hM hn hn14 h nt 0 (by omega)
set_option maxHeartbeats 4000000 in
theorem m_joined {x : pX} {d : Nat} {S : pS} {Q : Int32 → pS → Prop} {c u v : Int32} (h : Q (jn c u v) S) : PI x (d + 1) M_X9_joined [.int c, .int u, .int v] S Q := by
  refine PM_of (by decide +kernel) (Nat.le_of_ble_eq_true rfl) ?_
  show V x (d + 1) M_X9_joined (qi Q) (0, 0) 0 [(0, .int c), (1, .int u), (2, .int v)] [] S
  refine V_iln (pc := 0) dX9_joined_0 rfl rfl ?_
  refine V_tab (pc := 1) (t := 197) [183, 197, 197, 197, 124, 116, 197, 120, 197, 128, 197, 197, 197, 197, 197, 197, 197, 197, 197, 197, 197, 197, 150, 172, 161] dX9_joined_1 (by decide) (by decide) (by decide) (fun i1 q1 hq1 he1 => ?_) (fun ho1 => ?_)
  · match i1, hq1, he1 with
    | 0, hq, he => 
      cases hq
      have e1 : c = (38 : Int32) := Int32.toInt_inj.mp (by rw [he]; decide)
      unfold jn at h
      rw [e1, if_neg (by decide), if_neg (by decide), if_neg (by decide), if_neg (by decide), if_neg (by decide), if_neg (by decide), if_neg (by decide), if_pos rfl] at h
      refine V_iln (pc := 183) dX9_joined_183 rfl rfl ?_
      refine V_eq (pc := 184) (t := 195) dX9_joined_184 (by decide) (fun h184 => ?_) (fun h184 => ?_)
      · rw [if_neg (fun q => q.1 h184)] at h
        refine V_iconst (pc := 195) (v := 0) dX9_joined_195 (by decide) ?_
        refine V_iret (pc := 196) dX9_joined_196 rfl rfl ?_
        exact h
      · refine V_iln (pc := 187) dX9_joined_187 rfl rfl ?_
        refine V_eq (pc := 188) (t := 195) dX9_joined_188 (by decide) (fun h188 => ?_) (fun h188 => ?_)
        · rw [if_neg (fun q => q.2 h188)] at h
          refine V_iconst (pc := 195) (v := 0) dX9_joined_195 (by decide) ?_
          refine V_iret (pc := 196) dX9_joined_196 rfl rfl ?_
          exact h
        · rw [if_pos ⟨h184, h188⟩] at h
          refine V_iconst (pc := 191) (v := 1) dX9_joined_191 (by decide) ?_
          refine V_goto (pc := 192) (t := 196) dX9_joined_192 (by decide) ?_
          refine V_iret (pc := 196) dX9_joined_196 rfl rfl ?_
          exact h
    | 1, hq, he => 
      cases hq
      have e1 : c = (39 : Int32) := Int32.toInt_inj.mp (by rw [he]; decide)
      unfold jn at h
      rw [e1, if_neg (by decide), if_neg (by decide), if_neg (by decide), if_neg (by decide), if_neg (by decide), if_neg (by decide), if_neg (by decide), if_neg (by decide)] at h
      refine V_iln (pc := 197) dX9_joined_197 rfl rfl ?_
      refine V_ne (pc := 198) (t := 205) dX9_joined_198 (by decide) (fun h198 => ?_) (fun h198 => ?_)
      · rw [if_pos (Or.inl h198)] at h
        refine V_iconst (pc := 205) (v := 1) dX9_joined_205 (by decide) ?_
        refine V_goto (pc := 206) (t := 210) dX9_joined_206 (by decide) ?_
        refine V_iret (pc := 210) dX9_joined_210 rfl rfl ?_
        exact h
      · refine V_iln (pc := 201) dX9_joined_201 rfl rfl ?_
        refine V_eq (pc := 202) (t := 209) dX9_joined_202 (by decide) (fun h202 => ?_) (fun h202 => ?_)
        · rw [if_neg (fun q => q.elim (fun z => z h198) (fun z => z h202))] at h
          refine V_iconst (pc := 209) (v := 0) dX9_joined_209 (by decide) ?_
          refine V_iret (pc := 210) dX9_joined_210 rfl rfl ?_
          exact h
        · rw [if_pos (Or.inr h202)] at h
          refine V_iconst (pc := 205) (v := 1) dX9_joined_205 (by decide) ?_
          refine V_goto (pc := 206) (t := 210) dX9_joined_206 (by decide) ?_
          refine V_iret (pc := 210) dX9_joined_210 rfl rfl ?_
          exact h
    | 2, hq, he => 
      cases hq
      have e1 : c = (40 : Int32) := Int32.toInt_inj.mp (by rw [he]; decide)
      unfold jn at h
      rw [e1, if_neg (by decide), if_neg (by decide), if_neg (by decide), if_neg (by decide), if_neg (by decide), if_neg (by decide), if_neg (by decide), if_neg (by decide)] at h
      refine V_iln (pc := 197) dX9_joined_197 rfl rfl ?_
      refine V_ne (pc := 198) (t := 205) dX9_joined_198 (by decide) (fun h198 => ?_) (fun h198 => ?_)
      · rw [if_pos (Or.inl h198)] at h
        refine V_iconst (pc := 205) (v := 1) dX9_joined_205 (by decide) ?_
        refine V_goto (pc := 206) (t := 210) dX9_joined_206 (by decide) ?_
        refine V_iret (pc := 210) dX9_joined_210 rfl rfl ?_
        exact h
      · refine V_iln (pc := 201) dX9_joined_201 rfl rfl ?_
        refine V_eq (pc := 202) (t := 209) dX9_joined_202 (by decide) (fun h202 => ?_) (fun h202 => ?_)
        · rw [if_neg (fun q => q.elim (fun z => z h198) (fun z => z h202))] at h
          refine V_iconst (pc := 209) (v := 0) dX9_joined_209 (by decide) ?_
          refine V_iret (pc := 210) dX9_joined_210 rfl rfl ?_
          exact h
        · rw [if_pos (Or.inr h202)] at h
          refine V_iconst (pc := 205) (v := 1) dX9_joined_205 (by decide) ?_
          refine V_goto (pc := 206) (t := 210) dX9_joined_206 (by decide) ?_
          refine V_iret (pc := 210) dX9_joined_210 rfl rfl ?_
          exact h
    | 3, hq, he => 
      cases hq
      have e1 : c = (41 : Int32) := Int32.toInt_inj.mp (by rw [he]; decide)
      unfold jn at h
      rw [e1, if_neg (by decide), if_neg (by decide), if_neg (by decide), if_neg (by decide), if_neg (by decide), if_neg (by decide), if_neg (by decide), if_neg (by decide)] at h
      refine V_iln (pc := 197) dX9_joined_197 rfl rfl ?_
      refine V_ne (pc := 198) (t := 205) dX9_joined_198 (by decide) (fun h198 => ?_) (fun h198 => ?_)
      · rw [if_pos (Or.inl h198)] at h
        refine V_iconst (pc := 205) (v := 1) dX9_joined_205 (by decide) ?_
        refine V_goto (pc := 206) (t := 210) dX9_joined_206 (by decide) ?_
        refine V_iret (pc := 210) dX9_joined_210 rfl rfl ?_
        exact h
      · refine V_iln (pc := 201) dX9_joined_201 rfl rfl ?_
        refine V_eq (pc := 202) (t := 209) dX9_joined_202 (by decide) (fun h202 => ?_) (fun h202 => ?_)
        · rw [if_neg (fun q => q.elim (fun z => z h198) (fun z => z h202))] at h
          refine V_iconst (pc := 209) (v := 0) dX9_joined_209 (by decide) ?_
          refine V_iret (pc := 210) dX9_joined_210 rfl rfl ?_
          exact h
        · rw [if_pos (Or.inr h202)] at h
          refine V_iconst (pc := 205) (v := 1) dX9_joined_205 (by decide) ?_
          refine V_goto (pc := 206) (t := 210) dX9_joined_206 (by decide) ?_
          refine V_iret (pc := 210) dX9_joined_210 rfl rfl ?_
          exact h
    | 4, hq, he => 
      cases hq
      have e1 : c = (42 : Int32) := Int32.toInt_inj.mp (by rw [he]; decide)
      unfold jn at h
      rw [e1, if_neg (by decide), if_neg (by decide), if_pos rfl] at h
      refine V_iln (pc := 124) dX9_joined_124 rfl rfl ?_
      refine V_iln (pc := 125) dX9_joined_125 rfl rfl ?_
      refine V_imul (pc := 126) dX9_joined_126 ?_
      refine V_iret (pc := 127) dX9_joined_127 rfl rfl ?_
      exact h
    | 5, hq, he => 
      cases hq
      have e1 : c = (43 : Int32) := Int32.toInt_inj.mp (by rw [he]; decide)
      unfold jn at h
      rw [e1, if_pos rfl] at h
      refine V_iln (pc := 116) dX9_joined_116 rfl rfl ?_
      refine V_iln (pc := 117) dX9_joined_117 rfl rfl ?_
      refine V_iadd (pc := 118) dX9_joined_118 ?_
      refine V_iret (pc := 119) dX9_joined_119 rfl rfl ?_
      exact h
    | 6, hq, he => 
      cases hq
      have e1 : c = (44 : Int32) := Int32.toInt_inj.mp (by rw [he]; decide)
      unfold jn at h
      rw [e1, if_neg (by decide), if_neg (by decide), if_neg (by decide), if_neg (by decide), if_neg (by decide), if_neg (by decide), if_neg (by decide), if_neg (by decide)] at h
      refine V_iln (pc := 197) dX9_joined_197 rfl rfl ?_
      refine V_ne (pc := 198) (t := 205) dX9_joined_198 (by decide) (fun h198 => ?_) (fun h198 => ?_)
      · rw [if_pos (Or.inl h198)] at h
        refine V_iconst (pc := 205) (v := 1) dX9_joined_205 (by decide) ?_
        refine V_goto (pc := 206) (t := 210) dX9_joined_206 (by decide) ?_
        refine V_iret (pc := 210) dX9_joined_210 rfl rfl ?_
        exact h
      · refine V_iln (pc := 201) dX9_joined_201 rfl rfl ?_
        refine V_eq (pc := 202) (t := 209) dX9_joined_202 (by decide) (fun h202 => ?_) (fun h202 => ?_)
        · rw [if_neg (fun q => q.elim (fun z => z h198) (fun z => z h202))] at h
          refine V_iconst (pc := 209) (v := 0) dX9_joined_209 (by decide) ?_
          refine V_iret (pc := 210) dX9_joined_210 rfl rfl ?_
          exact h
        · rw [if_pos (Or.inr h202)] at h
          refine V_iconst (pc := 205) (v := 1) dX9_joined_205 (by decide) ?_
          refine V_goto (pc := 206) (t := 210) dX9_joined_206 (by decide) ?_
          refine V_iret (pc := 210) dX9_joined_210 rfl rfl ?_
          exact h
    | 7, hq, he => 
      cases hq
      have e1 : c = (45 : Int32) := Int32.toInt_inj.mp (by rw [he]; decide)
      unfold jn at h
      rw [e1, if_neg (by decide), if_pos rfl] at h
      refine V_iln (pc := 120) dX9_joined_120 rfl rfl ?_
      refine V_iln (pc := 121) dX9_joined_121 rfl rfl ?_
      refine V_isub (pc := 122) dX9_joined_122 ?_
      refine V_iret (pc := 123) dX9_joined_123 rfl rfl ?_
      exact h
    | 8, hq, he => 
      cases hq
      have e1 : c = (46 : Int32) := Int32.toInt_inj.mp (by rw [he]; decide)
      unfold jn at h
      rw [e1, if_neg (by decide), if_neg (by decide), if_neg (by decide), if_neg (by decide), if_neg (by decide), if_neg (by decide), if_neg (by decide), if_neg (by decide)] at h
      refine V_iln (pc := 197) dX9_joined_197 rfl rfl ?_
      refine V_ne (pc := 198) (t := 205) dX9_joined_198 (by decide) (fun h198 => ?_) (fun h198 => ?_)
      · rw [if_pos (Or.inl h198)] at h
        refine V_iconst (pc := 205) (v := 1) dX9_joined_205 (by decide) ?_
        refine V_goto (pc := 206) (t := 210) dX9_joined_206 (by decide) ?_
        refine V_iret (pc := 210) dX9_joined_210 rfl rfl ?_
        exact h
      · refine V_iln (pc := 201) dX9_joined_201 rfl rfl ?_
        refine V_eq (pc := 202) (t := 209) dX9_joined_202 (by decide) (fun h202 => ?_) (fun h202 => ?_)
        · rw [if_neg (fun q => q.elim (fun z => z h198) (fun z => z h202))] at h
          refine V_iconst (pc := 209) (v := 0) dX9_joined_209 (by decide) ?_
          refine V_iret (pc := 210) dX9_joined_210 rfl rfl ?_
          exact h
        · rw [if_pos (Or.inr h202)] at h
          refine V_iconst (pc := 205) (v := 1) dX9_joined_205 (by decide) ?_
          refine V_goto (pc := 206) (t := 210) dX9_joined_206 (by decide) ?_
          refine V_iret (pc := 210) dX9_joined_210 rfl rfl ?_
          exact h
    | 9, hq, he => 
      cases hq
      have e1 : c = (47 : Int32) := Int32.toInt_inj.mp (by rw [he]; decide)
      unfold jn at h
      rw [e1, if_neg (by decide), if_neg (by decide), if_neg (by decide), if_pos rfl] at h
      refine V_iln (pc := 128) dX9_joined_128 rfl rfl ?_
      refine V_ne (pc := 129) (t := 136) dX9_joined_129 (by decide) (fun h129 => ?_) (fun h129 => ?_)
      · rw [if_neg h129] at h
        refine V_iln (pc := 136) dX9_joined_136 rfl rfl ?_
        refine V_iconst (pc := 137) (v := (-1)) dX9_joined_137 (by decide) ?_
        refine V_cne (pc := 138) (t := 146) dX9_joined_138 (by decide) (fun h138 => ?_) (fun h138 => ?_)
        · rw [if_neg h138] at h
          refine V_iln (pc := 146) dX9_joined_146 rfl rfl ?_
          refine V_iln (pc := 147) dX9_joined_147 rfl rfl ?_
          refine V_idiv (pc := 148) dX9_joined_148 h129 ?_
          refine V_iret (pc := 149) dX9_joined_149 rfl rfl ?_
          exact h
        · rw [if_pos h138] at h
          refine V_iln (pc := 141) dX9_joined_141 rfl rfl ?_
          refine V_ineg (pc := 142) dX9_joined_142 ?_
          refine V_goto (pc := 143) (t := 149) dX9_joined_143 (by decide) ?_
          refine V_iret (pc := 149) dX9_joined_149 rfl rfl ?_
          exact h
      · rw [if_pos h129] at h
        refine V_iconst (pc := 132) (v := 0) dX9_joined_132 (by decide) ?_
        refine V_goto (pc := 133) (t := 149) dX9_joined_133 (by decide) ?_
        refine V_iret (pc := 149) dX9_joined_149 rfl rfl ?_
        exact h
    | 10, hq, he => 
      cases hq
      have e1 : c = (48 : Int32) := Int32.toInt_inj.mp (by rw [he]; decide)
      unfold jn at h
      rw [e1, if_neg (by decide), if_neg (by decide), if_neg (by decide), if_neg (by decide), if_neg (by decide), if_neg (by decide), if_neg (by decide), if_neg (by decide)] at h
      refine V_iln (pc := 197) dX9_joined_197 rfl rfl ?_
      refine V_ne (pc := 198) (t := 205) dX9_joined_198 (by decide) (fun h198 => ?_) (fun h198 => ?_)
      · rw [if_pos (Or.inl h198)] at h
        refine V_iconst (pc := 205) (v := 1) dX9_joined_205 (by decide) ?_
        refine V_goto (pc := 206) (t := 210) dX9_joined_206 (by decide) ?_
        refine V_iret (pc := 210) dX9_joined_210 rfl rfl ?_
        exact h
      · refine V_iln (pc := 201) dX9_joined_201 rfl rfl ?_
        refine V_eq (pc := 202) (t := 209) dX9_joined_202 (by decide) (fun h202 => ?_) (fun h202 => ?_)
        · rw [if_neg (fun q => q.elim (fun z => z h198) (fun z => z h202))] at h
          refine V_iconst (pc := 209) (v := 0) dX9_joined_209 (by decide) ?_
          refine V_iret (pc := 210) dX9_joined_210 rfl rfl ?_
          exact h
        · rw [if_pos (Or.inr h202)] at h
          refine V_iconst (pc := 205) (v := 1) dX9_joined_205 (by decide) ?_
          refine V_goto (pc := 206) (t := 210) dX9_joined_206 (by decide) ?_
          refine V_iret (pc := 210) dX9_joined_210 rfl rfl ?_
          exact h
    | 11, hq, he => 
      cases hq
      have e1 : c = (49 : Int32) := Int32.toInt_inj.mp (by rw [he]; decide)
      unfold jn at h
      rw [e1, if_neg (by decide), if_neg (by decide), if_neg (by decide), if_neg (by decide), if_neg (by decide), if_neg (by decide), if_neg (by decide), if_neg (by decide)] at h
      refine V_iln (pc := 197) dX9_joined_197 rfl rfl ?_
      refine V_ne (pc := 198) (t := 205) dX9_joined_198 (by decide) (fun h198 => ?_) (fun h198 => ?_)
      · rw [if_pos (Or.inl h198)] at h
        refine V_iconst (pc := 205) (v := 1) dX9_joined_205 (by decide) ?_
        refine V_goto (pc := 206) (t := 210) dX9_joined_206 (by decide) ?_
        refine V_iret (pc := 210) dX9_joined_210 rfl rfl ?_
        exact h
      · refine V_iln (pc := 201) dX9_joined_201 rfl rfl ?_
        refine V_eq (pc := 202) (t := 209) dX9_joined_202 (by decide) (fun h202 => ?_) (fun h202 => ?_)
        · rw [if_neg (fun q => q.elim (fun z => z h198) (fun z => z h202))] at h
          refine V_iconst (pc := 209) (v := 0) dX9_joined_209 (by decide) ?_
          refine V_iret (pc := 210) dX9_joined_210 rfl rfl ?_
          exact h
        · rw [if_pos (Or.inr h202)] at h
          refine V_iconst (pc := 205) (v := 1) dX9_joined_205 (by decide) ?_
          refine V_goto (pc := 206) (t := 210) dX9_joined_206 (by decide) ?_
          refine V_iret (pc := 210) dX9_joined_210 rfl rfl ?_
          exact h
    | 12, hq, he => 
      cases hq
      have e1 : c = (50 : Int32) := Int32.toInt_inj.mp (by rw [he]; decide)
      unfold jn at h
      rw [e1, if_neg (by decide), if_neg (by decide), if_neg (by decide), if_neg (by decide), if_neg (by decide), if_neg (by decide), if_neg (by decide), if_neg (by decide)] at h
      refine V_iln (pc := 197) dX9_joined_197 rfl rfl ?_
      refine V_ne (pc := 198) (t := 205) dX9_joined_198 (by decide) (fun h198 => ?_) (fun h198 => ?_)
      · rw [if_pos (Or.inl h198)] at h
        refine V_iconst (pc := 205) (v := 1) dX9_joined_205 (by decide) ?_
        refine V_goto (pc := 206) (t := 210) dX9_joined_206 (by decide) ?_
        refine V_iret (pc := 210) dX9_joined_210 rfl rfl ?_
        exact h
      · refine V_iln (pc := 201) dX9_joined_201 rfl rfl ?_
        refine V_eq (pc := 202) (t := 209) dX9_joined_202 (by decide) (fun h202 => ?_) (fun h202 => ?_)
        · rw [if_neg (fun q => q.elim (fun z => z h198) (fun z => z h202))] at h
          refine V_iconst (pc := 209) (v := 0) dX9_joined_209 (by decide) ?_
          refine V_iret (pc := 210) dX9_joined_210 rfl rfl ?_
          exact h
        · rw [if_pos (Or.inr h202)] at h
          refine V_iconst (pc := 205) (v := 1) dX9_joined_205 (by decide) ?_
          refine V_goto (pc := 206) (t := 210) dX9_joined_206 (by decide) ?_
          refine V_iret (pc := 210) dX9_joined_210 rfl rfl ?_
          exact h
    | 13, hq, he => 
      cases hq
      have e1 : c = (51 : Int32) := Int32.toInt_inj.mp (by rw [he]; decide)
      unfold jn at h
      rw [e1, if_neg (by decide), if_neg (by decide), if_neg (by decide), if_neg (by decide), if_neg (by decide), if_neg (by decide), if_neg (by decide), if_neg (by decide)] at h
      refine V_iln (pc := 197) dX9_joined_197 rfl rfl ?_
      refine V_ne (pc := 198) (t := 205) dX9_joined_198 (by decide) (fun h198 => ?_) (fun h198 => ?_)
      · rw [if_pos (Or.inl h198)] at h
        refine V_iconst (pc := 205) (v := 1) dX9_joined_205 (by decide) ?_
        refine V_goto (pc := 206) (t := 210) dX9_joined_206 (by decide) ?_
        refine V_iret (pc := 210) dX9_joined_210 rfl rfl ?_
        exact h
      · refine V_iln (pc := 201) dX9_joined_201 rfl rfl ?_
        refine V_eq (pc := 202) (t := 209) dX9_joined_202 (by decide) (fun h202 => ?_) (fun h202 => ?_)
        · rw [if_neg (fun q => q.elim (fun z => z h198) (fun z => z h202))] at h
          refine V_iconst (pc := 209) (v := 0) dX9_joined_209 (by decide) ?_
          refine V_iret (pc := 210) dX9_joined_210 rfl rfl ?_
          exact h
        · rw [if_pos (Or.inr h202)] at h
          refine V_iconst (pc := 205) (v := 1) dX9_joined_205 (by decide) ?_
          refine V_goto (pc := 206) (t := 210) dX9_joined_206 (by decide) ?_
          refine V_iret (pc := 210) dX9_joined_210 rfl rfl ?_
          exact h
    | 14, hq, he => 
      cases hq
      have e1 : c = (52 : Int32) := Int32.toInt_inj.mp (by rw [he]; decide)
      unfold jn at h
      rw [e1, if_neg (by decide), if_neg (by decide), if_neg (by decide), if_neg (by decide), if_neg (by decide), if_neg (by decide), if_neg (by decide), if_neg (by decide)] at h
      refine V_iln (pc := 197) dX9_joined_197 rfl rfl ?_
      refine V_ne (pc := 198) (t := 205) dX9_joined_198 (by decide) (fun h198 => ?_) (fun h198 => ?_)
      · rw [if_pos (Or.inl h198)] at h
        refine V_iconst (pc := 205) (v := 1) dX9_joined_205 (by decide) ?_
        refine V_goto (pc := 206) (t := 210) dX9_joined_206 (by decide) ?_
        refine V_iret (pc := 210) dX9_joined_210 rfl rfl ?_
        exact h
      · refine V_iln (pc := 201) dX9_joined_201 rfl rfl ?_
        refine V_eq (pc := 202) (t := 209) dX9_joined_202 (by decide) (fun h202 => ?_) (fun h202 => ?_)
        · rw [if_neg (fun q => q.elim (fun z => z h198) (fun z => z h202))] at h
          refine V_iconst (pc := 209) (v := 0) dX9_joined_209 (by decide) ?_
          refine V_iret (pc := 210) dX9_joined_210 rfl rfl ?_
          exact h
        · rw [if_pos (Or.inr h202)] at h
          refine V_iconst (pc := 205) (v := 1) dX9_joined_205 (by decide) ?_
          refine V_goto (pc := 206) (t := 210) dX9_joined_206 (by decide) ?_
          refine V_iret (pc := 210) dX9_joined_210 rfl rfl ?_
          exact h
    | 15, hq, he => 
      cases hq
      have e1 : c = (53 : Int32) := Int32.toInt_inj.mp (by rw [he]; decide)
      unfold jn at h
      rw [e1, if_neg (by decide), if_neg (by decide), if_neg (by decide), if_neg (by decide), if_neg (by decide), if_neg (by decide), if_neg (by decide), if_neg (by decide)] at h
      refine V_iln (pc := 197) dX9_joined_197 rfl rfl ?_
      refine V_ne (pc := 198) (t := 205) dX9_joined_198 (by decide) (fun h198 => ?_) (fun h198 => ?_)
      · rw [if_pos (Or.inl h198)] at h
        refine V_iconst (pc := 205) (v := 1) dX9_joined_205 (by decide) ?_
        refine V_goto (pc := 206) (t := 210) dX9_joined_206 (by decide) ?_
        refine V_iret (pc := 210) dX9_joined_210 rfl rfl ?_
        exact h
      · refine V_iln (pc := 201) dX9_joined_201 rfl rfl ?_
        refine V_eq (pc := 202) (t := 209) dX9_joined_202 (by decide) (fun h202 => ?_) (fun h202 => ?_)
        · rw [if_neg (fun q => q.elim (fun z => z h198) (fun z => z h202))] at h
          refine V_iconst (pc := 209) (v := 0) dX9_joined_209 (by decide) ?_
          refine V_iret (pc := 210) dX9_joined_210 rfl rfl ?_
          exact h
        · rw [if_pos (Or.inr h202)] at h
          refine V_iconst (pc := 205) (v := 1) dX9_joined_205 (by decide) ?_
          refine V_goto (pc := 206) (t := 210) dX9_joined_206 (by decide) ?_
          refine V_iret (pc := 210) dX9_joined_210 rfl rfl ?_
          exact h
    | 16, hq, he => 
      cases hq
      have e1 : c = (54 : Int32) := Int32.toInt_inj.mp (by rw [he]; decide)
      unfold jn at h
      rw [e1, if_neg (by decide), if_neg (by decide), if_neg (by decide), if_neg (by decide), if_neg (by decide), if_neg (by decide), if_neg (by decide), if_neg (by decide)] at h
      refine V_iln (pc := 197) dX9_joined_197 rfl rfl ?_
      refine V_ne (pc := 198) (t := 205) dX9_joined_198 (by decide) (fun h198 => ?_) (fun h198 => ?_)
      · rw [if_pos (Or.inl h198)] at h
        refine V_iconst (pc := 205) (v := 1) dX9_joined_205 (by decide) ?_
        refine V_goto (pc := 206) (t := 210) dX9_joined_206 (by decide) ?_
        refine V_iret (pc := 210) dX9_joined_210 rfl rfl ?_
        exact h
      · refine V_iln (pc := 201) dX9_joined_201 rfl rfl ?_
        refine V_eq (pc := 202) (t := 209) dX9_joined_202 (by decide) (fun h202 => ?_) (fun h202 => ?_)
        · rw [if_neg (fun q => q.elim (fun z => z h198) (fun z => z h202))] at h
          refine V_iconst (pc := 209) (v := 0) dX9_joined_209 (by decide) ?_
          refine V_iret (pc := 210) dX9_joined_210 rfl rfl ?_
          exact h
        · rw [if_pos (Or.inr h202)] at h
          refine V_iconst (pc := 205) (v := 1) dX9_joined_205 (by decide) ?_
          refine V_goto (pc := 206) (t := 210) dX9_joined_206 (by decide) ?_
          refine V_iret (pc := 210) dX9_joined_210 rfl rfl ?_
          exact h
    | 17, hq, he => 
      cases hq
      have e1 : c = (55 : Int32) := Int32.toInt_inj.mp (by rw [he]; decide)
      unfold jn at h
      rw [e1, if_neg (by decide), if_neg (by decide), if_neg (by decide), if_neg (by decide), if_neg (by decide), if_neg (by decide), if_neg (by decide), if_neg (by decide)] at h
      refine V_iln (pc := 197) dX9_joined_197 rfl rfl ?_
      refine V_ne (pc := 198) (t := 205) dX9_joined_198 (by decide) (fun h198 => ?_) (fun h198 => ?_)
      · rw [if_pos (Or.inl h198)] at h
        refine V_iconst (pc := 205) (v := 1) dX9_joined_205 (by decide) ?_
        refine V_goto (pc := 206) (t := 210) dX9_joined_206 (by decide) ?_
        refine V_iret (pc := 210) dX9_joined_210 rfl rfl ?_
        exact h
      · refine V_iln (pc := 201) dX9_joined_201 rfl rfl ?_
        refine V_eq (pc := 202) (t := 209) dX9_joined_202 (by decide) (fun h202 => ?_) (fun h202 => ?_)
        · rw [if_neg (fun q => q.elim (fun z => z h198) (fun z => z h202))] at h
          refine V_iconst (pc := 209) (v := 0) dX9_joined_209 (by decide) ?_
          refine V_iret (pc := 210) dX9_joined_210 rfl rfl ?_
          exact h
        · rw [if_pos (Or.inr h202)] at h
          refine V_iconst (pc := 205) (v := 1) dX9_joined_205 (by decide) ?_
          refine V_goto (pc := 206) (t := 210) dX9_joined_206 (by decide) ?_
          refine V_iret (pc := 210) dX9_joined_210 rfl rfl ?_
          exact h
    | 18, hq, he => 
      cases hq
      have e1 : c = (56 : Int32) := Int32.toInt_inj.mp (by rw [he]; decide)
      unfold jn at h
      rw [e1, if_neg (by decide), if_neg (by decide), if_neg (by decide), if_neg (by decide), if_neg (by decide), if_neg (by decide), if_neg (by decide), if_neg (by decide)] at h
      refine V_iln (pc := 197) dX9_joined_197 rfl rfl ?_
      refine V_ne (pc := 198) (t := 205) dX9_joined_198 (by decide) (fun h198 => ?_) (fun h198 => ?_)
      · rw [if_pos (Or.inl h198)] at h
        refine V_iconst (pc := 205) (v := 1) dX9_joined_205 (by decide) ?_
        refine V_goto (pc := 206) (t := 210) dX9_joined_206 (by decide) ?_
        refine V_iret (pc := 210) dX9_joined_210 rfl rfl ?_
        exact h
      · refine V_iln (pc := 201) dX9_joined_201 rfl rfl ?_
        refine V_eq (pc := 202) (t := 209) dX9_joined_202 (by decide) (fun h202 => ?_) (fun h202 => ?_)
        · rw [if_neg (fun q => q.elim (fun z => z h198) (fun z => z h202))] at h
          refine V_iconst (pc := 209) (v := 0) dX9_joined_209 (by decide) ?_
          refine V_iret (pc := 210) dX9_joined_210 rfl rfl ?_
          exact h
        · rw [if_pos (Or.inr h202)] at h
          refine V_iconst (pc := 205) (v := 1) dX9_joined_205 (by decide) ?_
          refine V_goto (pc := 206) (t := 210) dX9_joined_206 (by decide) ?_
          refine V_iret (pc := 210) dX9_joined_210 rfl rfl ?_
          exact h
    | 19, hq, he => 
      cases hq
      have e1 : c = (57 : Int32) := Int32.toInt_inj.mp (by rw [he]; decide)
      unfold jn at h
      rw [e1, if_neg (by decide), if_neg (by decide), if_neg (by decide), if_neg (by decide), if_neg (by decide), if_neg (by decide), if_neg (by decide), if_neg (by decide)] at h
      refine V_iln (pc := 197) dX9_joined_197 rfl rfl ?_
      refine V_ne (pc := 198) (t := 205) dX9_joined_198 (by decide) (fun h198 => ?_) (fun h198 => ?_)
      · rw [if_pos (Or.inl h198)] at h
        refine V_iconst (pc := 205) (v := 1) dX9_joined_205 (by decide) ?_
        refine V_goto (pc := 206) (t := 210) dX9_joined_206 (by decide) ?_
        refine V_iret (pc := 210) dX9_joined_210 rfl rfl ?_
        exact h
      · refine V_iln (pc := 201) dX9_joined_201 rfl rfl ?_
        refine V_eq (pc := 202) (t := 209) dX9_joined_202 (by decide) (fun h202 => ?_) (fun h202 => ?_)
        · rw [if_neg (fun q => q.elim (fun z => z h198) (fun z => z h202))] at h
          refine V_iconst (pc := 209) (v := 0) dX9_joined_209 (by decide) ?_
          refine V_iret (pc := 210) dX9_joined_210 rfl rfl ?_
          exact h
        · rw [if_pos (Or.inr h202)] at h
          refine V_iconst (pc := 205) (v := 1) dX9_joined_205 (by decide) ?_
          refine V_goto (pc := 206) (t := 210) dX9_joined_206 (by decide) ?_
          refine V_iret (pc := 210) dX9_joined_210 rfl rfl ?_
          exact h
    | 20, hq, he => 
      cases hq
      have e1 : c = (58 : Int32) := Int32.toInt_inj.mp (by rw [he]; decide)
      unfold jn at h
      rw [e1, if_neg (by decide), if_neg (by decide), if_neg (by decide), if_neg (by decide), if_neg (by decide), if_neg (by decide), if_neg (by decide), if_neg (by decide)] at h
      refine V_iln (pc := 197) dX9_joined_197 rfl rfl ?_
      refine V_ne (pc := 198) (t := 205) dX9_joined_198 (by decide) (fun h198 => ?_) (fun h198 => ?_)
      · rw [if_pos (Or.inl h198)] at h
        refine V_iconst (pc := 205) (v := 1) dX9_joined_205 (by decide) ?_
        refine V_goto (pc := 206) (t := 210) dX9_joined_206 (by decide) ?_
        refine V_iret (pc := 210) dX9_joined_210 rfl rfl ?_
        exact h
      · refine V_iln (pc := 201) dX9_joined_201 rfl rfl ?_
        refine V_eq (pc := 202) (t := 209) dX9_joined_202 (by decide) (fun h202 => ?_) (fun h202 => ?_)
        · rw [if_neg (fun q => q.elim (fun z => z h198) (fun z => z h202))] at h
          refine V_iconst (pc := 209) (v := 0) dX9_joined_209 (by decide) ?_
          refine V_iret (pc := 210) dX9_joined_210 rfl rfl ?_
          exact h
        · rw [if_pos (Or.inr h202)] at h
          refine V_iconst (pc := 205) (v := 1) dX9_joined_205 (by decide) ?_
          refine V_goto (pc := 206) (t := 210) dX9_joined_206 (by decide) ?_
          refine V_iret (pc := 210) dX9_joined_210 rfl rfl ?_
          exact h
    | 21, hq, he => 
      cases hq
      have e1 : c = (59 : Int32) := Int32.toInt_inj.mp (by rw [he]; decide)
      unfold jn at h
      rw [e1, if_neg (by decide), if_neg (by decide), if_neg (by decide), if_neg (by decide), if_neg (by decide), if_neg (by decide), if_neg (by decide), if_neg (by decide)] at h
      refine V_iln (pc := 197) dX9_joined_197 rfl rfl ?_
      refine V_ne (pc := 198) (t := 205) dX9_joined_198 (by decide) (fun h198 => ?_) (fun h198 => ?_)
      · rw [if_pos (Or.inl h198)] at h
        refine V_iconst (pc := 205) (v := 1) dX9_joined_205 (by decide) ?_
        refine V_goto (pc := 206) (t := 210) dX9_joined_206 (by decide) ?_
        refine V_iret (pc := 210) dX9_joined_210 rfl rfl ?_
        exact h
      · refine V_iln (pc := 201) dX9_joined_201 rfl rfl ?_
        refine V_eq (pc := 202) (t := 209) dX9_joined_202 (by decide) (fun h202 => ?_) (fun h202 => ?_)
        · rw [if_neg (fun q => q.elim (fun z => z h198) (fun z => z h202))] at h
          refine V_iconst (pc := 209) (v := 0) dX9_joined_209 (by decide) ?_
          refine V_iret (pc := 210) dX9_joined_210 rfl rfl ?_
          exact h
        · rw [if_pos (Or.inr h202)] at h
          refine V_iconst (pc := 205) (v := 1) dX9_joined_205 (by decide) ?_
          refine V_goto (pc := 206) (t := 210) dX9_joined_206 (by decide) ?_
          refine V_iret (pc := 210) dX9_joined_210 rfl rfl ?_
          exact h
    | 22, hq, he => 
      cases hq
      have e1 : c = (60 : Int32) := Int32.toInt_inj.mp (by rw [he]; decide)
      unfold jn at h
      rw [e1, if_neg (by decide), if_neg (by decide), if_neg (by decide), if_neg (by decide), if_pos rfl] at h
      refine V_iln (pc := 150) dX9_joined_150 rfl rfl ?_
      refine V_iln (pc := 151) dX9_joined_151 rfl rfl ?_
      refine V_cge (pc := 152) (t := 159) dX9_joined_152 (by decide) (fun h152 => ?_) (fun h152 => ?_)
      · rw [if_neg (Int32.not_lt.mpr h152)] at h
        refine V_iconst (pc := 159) (v := 0) dX9_joined_159 (by decide) ?_
        refine V_iret (pc := 160) dX9_joined_160 rfl rfl ?_
        exact h
      · rw [if_pos (Int32.not_le.mp h152)] at h
        refine V_iconst (pc := 155) (v := 1) dX9_joined_155 (by decide) ?_
        refine V_goto (pc := 156) (t := 160) dX9_joined_156 (by decide) ?_
        refine V_iret (pc := 160) dX9_joined_160 rfl rfl ?_
        exact h
    | 23, hq, he => 
      cases hq
      have e1 : c = (61 : Int32) := Int32.toInt_inj.mp (by rw [he]; decide)
      unfold jn at h
      rw [e1, if_neg (by decide), if_neg (by decide), if_neg (by decide), if_neg (by decide), if_neg (by decide), if_neg (by decide), if_pos rfl] at h
      refine V_iln (pc := 172) dX9_joined_172 rfl rfl ?_
      refine V_iln (pc := 173) dX9_joined_173 rfl rfl ?_
      refine V_cne (pc := 174) (t := 181) dX9_joined_174 (by decide) (fun h174 => ?_) (fun h174 => ?_)
      · rw [if_neg h174] at h
        refine V_iconst (pc := 181) (v := 0) dX9_joined_181 (by decide) ?_
        refine V_iret (pc := 182) dX9_joined_182 rfl rfl ?_
        exact h
      · rw [if_pos h174] at h
        refine V_iconst (pc := 177) (v := 1) dX9_joined_177 (by decide) ?_
        refine V_goto (pc := 178) (t := 182) dX9_joined_178 (by decide) ?_
        refine V_iret (pc := 182) dX9_joined_182 rfl rfl ?_
        exact h
    | 24, hq, he => 
      cases hq
      have e1 : c = (62 : Int32) := Int32.toInt_inj.mp (by rw [he]; decide)
      unfold jn at h
      rw [e1, if_neg (by decide), if_neg (by decide), if_neg (by decide), if_neg (by decide), if_neg (by decide), if_pos rfl] at h
      refine V_iln (pc := 161) dX9_joined_161 rfl rfl ?_
      refine V_iln (pc := 162) dX9_joined_162 rfl rfl ?_
      refine V_cle (pc := 163) (t := 170) dX9_joined_163 (by decide) (fun h163 => ?_) (fun h163 => ?_)
      · rw [if_neg (Int32.not_lt.mpr h163)] at h
        refine V_iconst (pc := 170) (v := 0) dX9_joined_170 (by decide) ?_
        refine V_iret (pc := 171) dX9_joined_171 rfl rfl ?_
        exact h
      · rw [if_pos (Int32.not_le.mp h163)] at h
        refine V_iconst (pc := 166) (v := 1) dX9_joined_166 (by decide) ?_
        refine V_goto (pc := 167) (t := 171) dX9_joined_167 (by decide) ?_
        refine V_iret (pc := 171) dX9_joined_171 rfl rfl ?_
        exact h
    | n + 25, hq, _ => simp at hq
  · unfold jn at h
    rw [if_neg (fun q => by rw [q] at ho1; revert ho1; decide), if_neg (fun q => by rw [q] at ho1; revert ho1; decide), if_neg (fun q => by rw [q] at ho1; revert ho1; decide), if_neg (fun q => by rw [q] at ho1; revert ho1; decide), if_neg (fun q => by rw [q] at ho1; revert ho1; decide), if_neg (fun q => by rw [q] at ho1; revert ho1; decide), if_neg (fun q => by rw [q] at ho1; revert ho1; decide), if_neg (fun q => by rw [q] at ho1; revert ho1; decide)] at h
    refine V_iln (pc := 197) dX9_joined_197 rfl rfl ?_
    refine V_ne (pc := 198) (t := 205) dX9_joined_198 (by decide) (fun h198 => ?_) (fun h198 => ?_)
    · rw [if_pos (Or.inl h198)] at h
      refine V_iconst (pc := 205) (v := 1) dX9_joined_205 (by decide) ?_
      refine V_goto (pc := 206) (t := 210) dX9_joined_206 (by decide) ?_
      refine V_iret (pc := 210) dX9_joined_210 rfl rfl ?_
      exact h
    · refine V_iln (pc := 201) dX9_joined_201 rfl rfl ?_
      refine V_eq (pc := 202) (t := 209) dX9_joined_202 (by decide) (fun h202 => ?_) (fun h202 => ?_)
      · rw [if_neg (fun q => q.elim (fun z => z h198) (fun z => z h202))] at h
        refine V_iconst (pc := 209) (v := 0) dX9_joined_209 (by decide) ?_
        refine V_iret (pc := 210) dX9_joined_210 rfl rfl ?_
        exact h
      · rw [if_pos (Or.inr h202)] at h
        refine V_iconst (pc := 205) (v := 1) dX9_joined_205 (by decide) ?_
        refine V_goto (pc := 206) (t := 210) dX9_joined_206 (by decide) ?_
        refine V_iret (pc := 210) dX9_joined_210 rfl rfl ?_
        exact h
set_option maxHeartbeats 4000000 in
theorem m_worked_L {x : pX} {d : Nat} {S : pS} {m : Nat} {as : Nat → Nat} {F : Nat → Int32} {b : Nat × Nat} {Q : Int32 → pS → Prop} (hM : MF S m as) {σ nm p0 : Nat → Int32} {A0 : Nat → Nat → Int32} {t many : Nat} (hw : wfT σ t many) (ht : t < 14) (h : ∀ A, sc A0 A → Q ((wst σ t nm p0 many).1 0) (mP S m as A F)) : ∀ (c k : Nat), k + c = many → ∀ (A : Nat → Nat → Int32), (sc A0 A ∧ A 288 = σ ∧ A 312 = nm ∧ A 313 = (wst σ t nm p0 k).1) → V x (d + 2) M_X9_worked (qi Q) b 4 [(0, .ref m), (1, .int (nI t)), (2, .int (nI (hgt σ t k))), (3, .int (nI k))] [] (mP S m as A F) := by
  intro c
  induction c with
  | zero =>
    intro k hk A hA
    obtain rfl : k = many := by omega
    refine V_iln (pc := 4) dX9_worked_4 rfl rfl ?_
    refine V_aln (pc := 5) dX9_worked_5 rfl rfl ?_
    refine M_gr (pc := 6) hM 0 288 dX9_worked_6 (FL_X9_7 rfl) rfl rfl (by decide) ?_
    refine V_aln (pc := 9) dX9_worked_9 rfl rfl ?_
    refine V_iln (pc := 10) dX9_worked_10 rfl rfl ?_
    refine V_cVi0 (pc := 11) (jc_X9_280 dX9_worked_11 rfl) rfl rfl (Nat.le_of_ble_eq_true rfl) (mF_k hM) ?_
    refine m_textAt ?_
    refine V_iconst (pc := 14) (v := 2) dX9_worked_14 (by decide) ?_
    refine V_iadd (pc := 15) dX9_worked_15 ?_
    refine M_ia (pc := 16) hM 288 (156 + 200 * t) dX9_worked_16 (by decide) (by decide) (by simp only [fa_lit, nI_add]; congr 1; omega) (by show (_ : Nat) < 3154; omega) ?_
    refine V_cge (pc := 17) (t := 163) dX9_worked_17 (by decide) (fun h17 => ?_) (fun h17 => ?_)
    · refine V_aln (pc := 163) dX9_worked_163 rfl rfl ?_
      refine M_gr (pc := 164) hM 25 313 dX9_worked_164 (FL_X9_49 rfl) rfl rfl (by decide) ?_
      refine V_iconst (pc := 167) (v := 0) dX9_worked_167 (by decide) ?_
      refine M_ia (pc := 168) hM 313 0 dX9_worked_168 (by decide) (by decide) (by simp only [fa_lit, nI_add, pk_mul]) (by show (_ : Nat) < 100; omega) ?_
      refine V_iret (pc := 169) dX9_worked_169 rfl rfl ?_
      have e : A 313 0 = (wst σ t nm p0 k).1 0 := by rw [hA.2.2.2]
      rw [e]; exact h A hA.1
    · exact absurd (by rw [hA.2.1, hw.1]; exact nI_le (by omega) (by have := hw.2.2.1; omega)) h17
  | succ c ih =>
    intro k hk A hA
    obtain ⟨h99, hcs⟩ := hw.2.2.2.1 k (by omega)
    refine V_iln (pc := 4) dX9_worked_4 rfl rfl ?_
    refine V_aln (pc := 5) dX9_worked_5 rfl rfl ?_
    refine M_gr (pc := 6) hM 0 288 dX9_worked_6 (FL_X9_7 rfl) rfl rfl (by decide) ?_
    refine V_aln (pc := 9) dX9_worked_9 rfl rfl ?_
    refine V_iln (pc := 10) dX9_worked_10 rfl rfl ?_
    refine V_cVi0 (pc := 11) (jc_X9_280 dX9_worked_11 rfl) rfl rfl (Nat.le_of_ble_eq_true rfl) (mF_k hM) ?_
    refine m_textAt ?_
    refine V_iconst (pc := 14) (v := 2) dX9_worked_14 (by decide) ?_
    refine V_iadd (pc := 15) dX9_worked_15 ?_
    refine M_ia (pc := 16) hM 288 (156 + 200 * t) dX9_worked_16 (by decide) (by decide) (by simp only [fa_lit, nI_add]; congr 1; omega) (by show (_ : Nat) < 3154; omega) ?_
    refine V_cge (pc := 17) (t := 163) dX9_worked_17 (by decide) (fun h17 => ?_) (fun h17 => ?_)
    · exact absurd h17 (by rw [hA.2.1, hw.1]; exact nI_ge (by omega) (by have := hw.2.2.1; omega))
    · refine V_aln (pc := 20) dX9_worked_20 rfl rfl ?_
      refine M_gr (pc := 21) hM 0 288 dX9_worked_21 (FL_X9_7 rfl) rfl rfl (by decide) ?_
      refine V_aln (pc := 24) dX9_worked_24 rfl rfl ?_
      refine V_iln (pc := 25) dX9_worked_25 rfl rfl ?_
      refine V_cVi0 (pc := 26) (jc_X9_280 dX9_worked_26 rfl) rfl rfl (Nat.le_of_ble_eq_true rfl) (mF_k hM) ?_
      refine m_textAt ?_
      refine V_iconst (pc := 29) (v := 4) dX9_worked_29 (by decide) ?_
      refine V_iadd (pc := 30) dX9_worked_30 ?_
      refine V_iconst (pc := 31) (v := 2) dX9_worked_31 (by decide) ?_
      refine V_iln (pc := 32) dX9_worked_32 rfl rfl ?_
      refine V_imul (pc := 33) dX9_worked_33 ?_
      refine V_iadd (pc := 34) dX9_worked_34 ?_
      refine M_ia (pc := 35) hM 288 (158 + 200 * t + 2 * k) dX9_worked_35 (by decide) (by decide) (by simp only [fa_lit, nI_add, pk_mul]; congr 1; omega) (by show (_ : Nat) < 3154; have := hw.2.2.1; omega) ?_
      refine V_is (pc := 36) (fun y => [(0, .ref m), (1, .int (nI t)), (2, .int (nI (hgt σ t k))), (3, .int (nI k)), (4, .int y)]) dX9_worked_36 (by decide) (fun _ => rfl) (fun y36 ey36 => ?_)
      refine V_aln (pc := 38) dX9_worked_38 rfl rfl ?_
      refine M_gr (pc := 39) hM 0 288 dX9_worked_39 (FL_X9_7 rfl) rfl rfl (by decide) ?_
      refine V_aln (pc := 42) dX9_worked_42 rfl rfl ?_
      refine V_iln (pc := 43) dX9_worked_43 rfl rfl ?_
      refine V_cVi0 (pc := 44) (jc_X9_280 dX9_worked_44 rfl) rfl rfl (Nat.le_of_ble_eq_true rfl) (mF_k hM) ?_
      refine m_textAt ?_
      refine V_iconst (pc := 47) (v := 4) dX9_worked_47 (by decide) ?_
      refine V_iadd (pc := 48) dX9_worked_48 ?_
      refine V_iconst (pc := 49) (v := 2) dX9_worked_49 (by decide) ?_
      refine V_iln (pc := 50) dX9_worked_50 rfl rfl ?_
      refine V_imul (pc := 51) dX9_worked_51 ?_
      refine V_iadd (pc := 52) dX9_worked_52 ?_
      refine V_iconst (pc := 53) (v := 1) dX9_worked_53 (by decide) ?_
      refine V_iadd (pc := 54) dX9_worked_54 ?_
      refine M_ia (pc := 55) hM 288 (159 + 200 * t + 2 * k) dX9_worked_55 (by decide) (by decide) (by simp only [fa_lit, nI_add, pk_mul]; congr 1; omega) (by show (_ : Nat) < 3154; have := hw.2.2.1; omega) ?_
      refine V_is (pc := 56) (fun y => [(0, .ref m), (1, .int (nI t)), (2, .int (nI (hgt σ t k))), (3, .int (nI k)), (4, .int y36), (5, .int y)]) dX9_worked_56 (by decide) (fun _ => rfl) (fun y56 ey56 => ?_)
      refine V_il (pc := 58) dX9_worked_58 rfl ?_
      refine V_iconst (pc := 60) (v := 2) dX9_worked_60 (by decide) ?_
      refine V_ceq (pc := 61) (t := 93) dX9_worked_61 (by decide) (fun h61 => ?_) (fun h61 => ?_)
      · have h2 : σ (158 + 200 * t + 2 * k) = 2 := by rw [← hA.2.1, ← ey36]; exact h61
        have hc : (σ (159 + 200 * t + 2 * k) = 33 ∧ 1 ≤ hgt σ t k) ∨ (¬ σ (159 + 200 * t + 2 * k) = 33 ∧ 2 ≤ hgt σ t k) := by
          rcases hcs with z | ⟨z, -⟩ | ⟨-, z⟩
          · rw [h2] at z; exact absurd z (by decide)
          · rw [h2] at z; exact absurd z (by decide)
          · exact z
        refine V_il (pc := 93) dX9_worked_93 rfl ?_
        refine V_bipush (pc := 95) (v := 33) dX9_worked_95 (by decide) ?_
        refine V_cne (pc := 97) (t := 127) dX9_worked_97 (by decide) (fun h97 => ?_) (fun h97 => ?_)
        · have h3 : ¬ σ (159 + 200 * t + 2 * k) = 33 := by rw [← hA.2.1, ← ey56]; exact h97
          have hh : 2 ≤ hgt σ t k := hc.elim (fun z => absurd z.1 h3) (fun z => z.2)
          refine V_inc (pc := 127) (fun y => [(0, .ref m), (1, .int (nI t)), (2, .int y), (3, .int (nI k)), (4, .int y36), (5, .int y56)]) (w := (-1)) dX9_worked_127 (by decide) (by decide) rfl (fun _ => rfl) (fun y127 ey127 => ?_)
          obtain rfl : y127 = nI (hgt σ t k - 1) := by rw [ey127]; obtain ⟨q, hq⟩ : ∃ q, hgt σ t k = q + 1 := ⟨hgt σ t k - 1, by omega⟩; rw [hq]; exact pk_m1 q
          refine V_aln (pc := 130) dX9_worked_130 rfl rfl ?_
          refine M_gr (pc := 131) hM 25 313 dX9_worked_131 (FL_X9_49 rfl) rfl rfl (by decide) ?_
          refine V_iln (pc := 134) dX9_worked_134 rfl rfl ?_
          refine V_iconst (pc := 135) (v := 1) dX9_worked_135 (by decide) ?_
          refine V_isub (pc := 136) dX9_worked_136 ?_
          refine V_il (pc := 137) dX9_worked_137 rfl ?_
          refine V_aln (pc := 139) dX9_worked_139 rfl rfl ?_
          refine M_gr (pc := 140) hM 25 313 dX9_worked_140 (FL_X9_49 rfl) rfl rfl (by decide) ?_
          refine V_iln (pc := 143) dX9_worked_143 rfl rfl ?_
          refine V_iconst (pc := 144) (v := 1) dX9_worked_144 (by decide) ?_
          refine V_isub (pc := 145) dX9_worked_145 ?_
          refine M_ia (pc := 146) hM 313 (hgt σ t k - 2) dX9_worked_146 (by decide) (by decide) (by show nI (hgt σ t k - 1) - nI 1 = _; rw [pk_sub (by omega)]; congr 1) (by show (_ : Nat) < 100; omega) ?_
          refine V_aln (pc := 147) dX9_worked_147 rfl rfl ?_
          refine M_gr (pc := 148) hM 25 313 dX9_worked_148 (FL_X9_49 rfl) rfl rfl (by decide) ?_
          refine V_iln (pc := 151) dX9_worked_151 rfl rfl ?_
          refine M_ia (pc := 152) hM 313 (hgt σ t k - 1) dX9_worked_152 (by decide) (by decide) rfl (by show (_ : Nat) < 100; omega) ?_
          refine V_cSi0 (pc := 153) (jc_X9_294 dX9_worked_153 rfl) rfl rfl (Nat.le_of_ble_eq_true rfl) ?_
          refine m_joined ?_
          refine M_ias (pc := 156) hM 313 (hgt σ t k - 2) dX9_worked_156 (by decide) (by decide) (by show nI (hgt σ t k - 1) - nI 1 = _; rw [pk_sub (by omega)]; congr 1) (by show (_ : Nat) < 100; omega) ?_
          refine V_inc (pc := 157) (fun y => [(0, .ref m), (1, .int (nI t)), (2, .int (nI (hgt σ t k - 1))), (3, .int y), (4, .int y36), (5, .int y56)]) (w := 1) dX9_worked_157 (by decide) (by decide) rfl (fun _ => rfl) (fun y157 ey157 => ?_)
          obtain rfl : y157 = nI (k + 1) := by rw [ey157]; exact nI_1 _
          refine V_goto (pc := 160) (t := 4) dX9_worked_160 (by decide) ?_
          refine V_lp [0, 1, 2, 3] (ls' := [(0, .ref m), (1, .int (nI t)), (2, .int (nI (hgt σ t k - 1))), (3, .int (nI (k + 1)))]) rfl ?_
          have eh : hgt σ t (k + 1) = _ := hgt_3 h2 h3
          rw [← eh]
          refine ih (k + 1) (by omega) _ ⟨hA.1.up (Or.inr rfl) _, by rw [va_up_ne _ _ (by decide)]; exact hA.2.1, by rw [va_up_ne _ _ (by decide)]; exact hA.2.2.1, ?_⟩
          rw [va_up_self]
          rw [hA.2.2.2]
          rw [wst_s3 h2 h3, ey56, hA.2.1]; try rw [eh]
        · have h3 : σ (159 + 200 * t + 2 * k) = 33 := by rw [← hA.2.1, ← ey56]; exact h97
          have hh : 1 ≤ hgt σ t k := hc.elim (fun z => z.2) (fun z => absurd h3 z.1)
          refine V_aln (pc := 100) dX9_worked_100 rfl rfl ?_
          refine M_gr (pc := 101) hM 25 313 dX9_worked_101 (FL_X9_49 rfl) rfl rfl (by decide) ?_
          refine V_iln (pc := 104) dX9_worked_104 rfl rfl ?_
          refine V_iconst (pc := 105) (v := 1) dX9_worked_105 (by decide) ?_
          refine V_isub (pc := 106) dX9_worked_106 ?_
          refine V_aln (pc := 107) dX9_worked_107 rfl rfl ?_
          refine M_gr (pc := 108) hM 25 313 dX9_worked_108 (FL_X9_49 rfl) rfl rfl (by decide) ?_
          refine V_iln (pc := 111) dX9_worked_111 rfl rfl ?_
          refine V_iconst (pc := 112) (v := 1) dX9_worked_112 (by decide) ?_
          refine V_isub (pc := 113) dX9_worked_113 ?_
          refine M_ia (pc := 114) hM 313 (hgt σ t k - 1) dX9_worked_114 (by decide) (by decide) (by show nI (hgt σ t k) - nI 1 = _; exact pk_sub (by omega)) (by show (_ : Nat) < 100; omega) ?_
          refine V_ne (pc := 115) (t := 122) dX9_worked_115 (by decide) (fun h115 => ?_) (fun h115 => ?_)
          · refine V_iconst (pc := 122) (v := 0) dX9_worked_122 (by decide) ?_
            refine M_ias (pc := 123) hM 313 (hgt σ t k - 1) dX9_worked_123 (by decide) (by decide) (by show nI (hgt σ t k) - nI 1 = _; exact pk_sub (by omega)) (by show (_ : Nat) < 100; omega) ?_
            refine V_goto (pc := 124) (t := 157) dX9_worked_124 (by decide) ?_
            refine V_inc (pc := 157) (fun y => [(0, .ref m), (1, .int (nI t)), (2, .int (nI (hgt σ t k))), (3, .int y), (4, .int y36), (5, .int y56)]) (w := 1) dX9_worked_157 (by decide) (by decide) rfl (fun _ => rfl) (fun y157 ey157 => ?_)
            obtain rfl : y157 = nI (k + 1) := by rw [ey157]; exact nI_1 _
            refine V_goto (pc := 160) (t := 4) dX9_worked_160 (by decide) ?_
            refine V_lp [0, 1, 2, 3] (ls' := [(0, .ref m), (1, .int (nI t)), (2, .int (nI (hgt σ t k))), (3, .int (nI (k + 1)))]) rfl ?_
            have eh : hgt σ t (k + 1) = _ := hgt_2 h2 h3
            rw [← eh]
            refine ih (k + 1) (by omega) _ ⟨hA.1.up (Or.inr rfl) _, by rw [va_up_ne _ _ (by decide)]; exact hA.2.1, by rw [va_up_ne _ _ (by decide)]; exact hA.2.2.1, ?_⟩
            rw [va_up_self]
            rw [hA.2.2.2]
            rw [wst_s2 h2 h3]; (first | rw [if_pos (by rw [← hA.2.2.2]; exact h115)] | rw [if_neg (by rw [← hA.2.2.2]; exact h115)]); try rw [eh]
          · refine V_iconst (pc := 118) (v := 1) dX9_worked_118 (by decide) ?_
            refine V_goto (pc := 119) (t := 123) dX9_worked_119 (by decide) ?_
            refine M_ias (pc := 123) hM 313 (hgt σ t k - 1) dX9_worked_123 (by decide) (by decide) (by show nI (hgt σ t k) - nI 1 = _; exact pk_sub (by omega)) (by show (_ : Nat) < 100; omega) ?_
            refine V_goto (pc := 124) (t := 157) dX9_worked_124 (by decide) ?_
            refine V_inc (pc := 157) (fun y => [(0, .ref m), (1, .int (nI t)), (2, .int (nI (hgt σ t k))), (3, .int y), (4, .int y36), (5, .int y56)]) (w := 1) dX9_worked_157 (by decide) (by decide) rfl (fun _ => rfl) (fun y157 ey157 => ?_)
            obtain rfl : y157 = nI (k + 1) := by rw [ey157]; exact nI_1 _
            refine V_goto (pc := 160) (t := 4) dX9_worked_160 (by decide) ?_
            refine V_lp [0, 1, 2, 3] (ls' := [(0, .ref m), (1, .int (nI t)), (2, .int (nI (hgt σ t k))), (3, .int (nI (k + 1)))]) rfl ?_
            have eh : hgt σ t (k + 1) = _ := hgt_2 h2 h3
            rw [← eh]
            refine ih (k + 1) (by omega) _ ⟨hA.1.up (Or.inr rfl) _, by rw [va_up_ne _ _ (by decide)]; exact hA.2.1, by rw [va_up_ne _ _ (by decide)]; exact hA.2.2.1, ?_⟩
            rw [va_up_self]
            rw [hA.2.2.2]
            rw [wst_s2 h2 h3]; (first | rw [if_pos (by rw [← hA.2.2.2]; exact h115)] | rw [if_neg (by rw [← hA.2.2.2]; exact h115)]); try rw [eh]
      · have h2 : ¬ σ (158 + 200 * t + 2 * k) = 2 := by rw [← hA.2.1, ← ey36]; exact h61
        refine V_aln (pc := 64) dX9_worked_64 rfl rfl ?_
        refine M_gr (pc := 65) hM 25 313 dX9_worked_65 (FL_X9_49 rfl) rfl rfl (by decide) ?_
        refine V_iln (pc := 68) dX9_worked_68 rfl rfl ?_
        refine V_il (pc := 69) dX9_worked_69 rfl ?_
        refine V_ne (pc := 71) (t := 79) dX9_worked_71 (by decide) (fun h71 => ?_) (fun h71 => ?_)
        · have h0 : ¬ σ (158 + 200 * t + 2 * k) = 0 := by rw [← hA.2.1, ← ey36]; exact h71
          obtain ⟨h1, v5, hv5, hok⟩ : σ (158 + 200 * t + 2 * k) = 1 ∧ ∃ c : Nat, σ (159 + 200 * t + 2 * k) = nI c ∧ okN (σ (154 + 200 * t)) c := by
            rcases hcs with z | z | ⟨z, -⟩
            · exact absurd z h0
            · exact z
            · exact absurd z h2
          have ev5 : y56 = nI v5 := by rw [ey56, hA.2.1]; exact hv5
          refine V_aln (pc := 79) dX9_worked_79 rfl rfl ?_
          refine M_gr (pc := 80) hM 24 312 dX9_worked_80 (FL_X9_46 rfl) rfl rfl (by decide) ?_
          refine V_il (pc := 83) dX9_worked_83 rfl ?_
          refine M_ia (pc := 85) hM 312 v5 dX9_worked_85 (by decide) (by decide) ev5 (by show (_ : Nat) < 128; exact okN_lt hok) ?_
          refine M_ias (pc := 86) hM 313 (hgt σ t k) dX9_worked_86 (by decide) (by decide) rfl (by show (_ : Nat) < 100; omega) ?_
          refine V_inc (pc := 87) (fun y => [(0, .ref m), (1, .int (nI t)), (2, .int y), (3, .int (nI k)), (4, .int y36), (5, .int y56)]) (w := 1) dX9_worked_87 (by decide) (by decide) rfl (fun _ => rfl) (fun y87 ey87 => ?_)
          obtain rfl : y87 = nI ((hgt σ t k) + 1) := by rw [ey87]; exact nI_1 _
          refine V_goto (pc := 90) (t := 157) dX9_worked_90 (by decide) ?_
          refine V_inc (pc := 157) (fun y => [(0, .ref m), (1, .int (nI t)), (2, .int (nI ((hgt σ t k) + 1))), (3, .int y), (4, .int y36), (5, .int y56)]) (w := 1) dX9_worked_157 (by decide) (by decide) rfl (fun _ => rfl) (fun y157 ey157 => ?_)
          obtain rfl : y157 = nI (k + 1) := by rw [ey157]; exact nI_1 _
          refine V_goto (pc := 160) (t := 4) dX9_worked_160 (by decide) ?_
          refine V_lp [0, 1, 2, 3] (ls' := [(0, .ref m), (1, .int (nI t)), (2, .int (nI ((hgt σ t k) + 1))), (3, .int (nI (k + 1)))]) rfl ?_
          have eh : hgt σ t (k + 1) = _ := hgt_p h2
          rw [← eh]
          refine ih (k + 1) (by omega) _ ⟨hA.1.up (Or.inr rfl) _, by rw [va_up_ne _ _ (by decide)]; exact hA.2.1, by rw [va_up_ne _ _ (by decide)]; exact hA.2.2.1, ?_⟩
          rw [va_up_self]
          rw [hA.2.2.2]
          rw [wst_s1 h1, hv5, nI_clamp (by have := okN_lt hok; omega), hA.2.2.1]
        · have h0 : σ (158 + 200 * t + 2 * k) = 0 := by rw [← hA.2.1, ← ey36]; exact h71
          refine V_il (pc := 74) dX9_worked_74 rfl ?_
          refine V_goto (pc := 76) (t := 86) dX9_worked_76 (by decide) ?_
          refine M_ias (pc := 86) hM 313 (hgt σ t k) dX9_worked_86 (by decide) (by decide) rfl (by show (_ : Nat) < 100; omega) ?_
          refine V_inc (pc := 87) (fun y => [(0, .ref m), (1, .int (nI t)), (2, .int y), (3, .int (nI k)), (4, .int y36), (5, .int y56)]) (w := 1) dX9_worked_87 (by decide) (by decide) rfl (fun _ => rfl) (fun y87 ey87 => ?_)
          obtain rfl : y87 = nI ((hgt σ t k) + 1) := by rw [ey87]; exact nI_1 _
          refine V_goto (pc := 90) (t := 157) dX9_worked_90 (by decide) ?_
          refine V_inc (pc := 157) (fun y => [(0, .ref m), (1, .int (nI t)), (2, .int (nI ((hgt σ t k) + 1))), (3, .int y), (4, .int y36), (5, .int y56)]) (w := 1) dX9_worked_157 (by decide) (by decide) rfl (fun _ => rfl) (fun y157 ey157 => ?_)
          obtain rfl : y157 = nI (k + 1) := by rw [ey157]; exact nI_1 _
          refine V_goto (pc := 160) (t := 4) dX9_worked_160 (by decide) ?_
          refine V_lp [0, 1, 2, 3] (ls' := [(0, .ref m), (1, .int (nI t)), (2, .int (nI ((hgt σ t k) + 1))), (3, .int (nI (k + 1)))]) rfl ?_
          have eh : hgt σ t (k + 1) = _ := hgt_p h2
          rw [← eh]
          refine ih (k + 1) (by omega) _ ⟨hA.1.up (Or.inr rfl) _, by rw [va_up_ne _ _ (by decide)]; exact hA.2.1, by rw [va_up_ne _ _ (by decide)]; exact hA.2.2.1, ?_⟩
          rw [va_up_self]
          rw [hA.2.2.2]
          rw [wst_s0 h0, ey56, hA.2.1]
set_option maxHeartbeats 4000000 in
theorem m_worked {x : pX} {d : Nat} {S : pS} {m : Nat} {as : Nat → Nat} {A : Nat → Nat → Int32} {F : Nat → Int32} {Q : Int32 → pS → Prop} (hM : MF S m as) {t many : Nat} {nm : Nat → Int32} (hw : wfT (A 288) t many) (ht : t < 14) (hn : ∀ c, okN (A 288 (154 + 200 * t)) c → A 312 c = nm c) (h : ∀ A2, sc A A2 → Q (wkd (A 288) t many nm) (mP S m as A2 F)) : PI x (d + 2) M_X9_worked [.ref m, .int (nI t)] (mP S m as A F) Q := by
  refine PM_of (by decide +kernel) (Nat.le_of_ble_eq_true rfl) ?_
  show V x (d + 2) M_X9_worked (qi Q) (0, 0) 0 [(0, .ref m), (1, .int (nI t))] [] (mP S m as A F)
  refine V_iconst (pc := 0) (v := 0) dX9_worked_0 (by decide) ?_
  refine V_isn (pc := 1) (fun y => [(0, .ref m), (1, .int (nI t)), (2, .int y)]) dX9_worked_1 rfl (by decide) (fun _ => rfl) (fun y1 ey1 => ?_)
  obtain rfl : y1 = nI 0 := ey1
  refine V_iconst (pc := 2) (v := 0) dX9_worked_2 (by decide) ?_
  refine V_isn (pc := 3) (fun y => [(0, .ref m), (1, .int (nI t)), (2, .int (nI 0)), (3, .int y)]) dX9_worked_3 rfl (by decide) (fun _ => rfl) (fun y3 ey3 => ?_)
  obtain rfl : y3 = nI 0 := ey3
  refine m_worked_L (σ := A 288) (nm := A 312) (p0 := A 313) (A0 := A) hM hw ht ?_ many 0 (by omega) A ⟨sc.rf, rfl, rfl, rfl⟩
  rw [wkd_eq hw hn]; exact h
set_option maxHeartbeats 4000000 in
theorem m_losesIf_T {x : pX} {d : Nat} {S : pS} {m : Nat} {as : Nat → Nat} {A : Nat → Nat → Int32} {F : Nat → Int32} {b : Nat × Nat} {Q : Int32 → pS → Prop} (hM : MF S m as) {w : Nat} {g tm p t5 : Int32} (hw : w < 10) (h : Q (if fkind (A 288 (14 + 4 * w + 0)) p tm < g then fkind (A 288 (14 + 4 * w + 0)) p tm else g) (mP S m as A F)) : V x (d + 3) M_X9_losesIf (qi Q) b 57 [(0, .ref m), (1, .int (nI w)), (2, .int g), (3, .int tm), (4, .int p), (5, .int t5)] [] (mP S m as A F) := by
  refine V_aln (pc := 57) dX9_losesIf_57 rfl rfl ?_
  refine V_iln (pc := 58) dX9_losesIf_58 rfl rfl ?_
  refine V_iconst (pc := 59) (v := 0) dX9_losesIf_59 (by decide) ?_
  refine V_cVi0 (pc := 60) (jc_X9_67 dX9_losesIf_60 rfl) rfl rfl (Nat.le_of_ble_eq_true rfl) (mF_k hM) ?_
  refine m_of hM (i := w) (j := 0) (by omega) ?_
  refine V_tab (pc := 63) (t := 150) [96, 105, 114, 125, 144] dX9_losesIf_63 (by decide) (by decide) (by decide) (fun i63 q63 hq63 he63 => ?_) (fun ho63 => ?_)
  · match i63, hq63, he63 with
    | 0, hq, he => 
      cases hq
      have e63 : (A 288 (14 + 4 * w + 0)) = (1 : Int32) := Int32.toInt_inj.mp (by rw [he]; decide)
      have ek : fkind (A 288 (14 + 4 * w + 0)) p tm = p + 1 := by unfold fkind; rw [e63, if_pos rfl]
      rw [ek] at h
      refine V_il (pc := 96) dX9_losesIf_96 rfl ?_
      refine V_iconst (pc := 98) (v := 1) dX9_losesIf_98 (by decide) ?_
      refine V_iadd (pc := 99) dX9_losesIf_99 ?_
      refine V_is (pc := 100) (fun y => [(0, .ref m), (1, .int (nI w)), (2, .int g), (3, .int tm), (4, .int y), (5, .int t5)]) dX9_losesIf_100 (by decide) (fun _ => rfl) (fun y100 ey100 => ?_)
      subst ey100
      refine V_goto (pc := 102) (t := 150) dX9_losesIf_102 (by decide) ?_
      refine V_il (pc := 150) dX9_losesIf_150 rfl ?_
      refine V_iln (pc := 152) dX9_losesIf_152 rfl rfl ?_
      refine V_cge (pc := 153) (t := 161) dX9_losesIf_153 (by decide) (fun h153 => ?_) (fun h153 => ?_)
      · rw [if_neg (Int32.not_lt.mpr h153)] at h
        refine V_iln (pc := 161) dX9_losesIf_161 rfl rfl ?_
        refine V_iret (pc := 162) dX9_losesIf_162 rfl rfl ?_
        exact h
      · rw [if_pos (Int32.not_le.mp h153)] at h
        refine V_il (pc := 156) dX9_losesIf_156 rfl ?_
        refine V_goto (pc := 158) (t := 162) dX9_losesIf_158 (by decide) ?_
        refine V_iret (pc := 162) dX9_losesIf_162 rfl rfl ?_
        exact h
    | 1, hq, he => 
      cases hq
      have e63 : (A 288 (14 + 4 * w + 0)) = (2 : Int32) := Int32.toInt_inj.mp (by rw [he]; decide)
      have ek : fkind (A 288 (14 + 4 * w + 0)) p tm = p / 2 := by unfold fkind; rw [e63, if_neg (by decide), if_pos rfl]
      rw [ek] at h
      refine V_il (pc := 105) dX9_losesIf_105 rfl ?_
      refine V_iconst (pc := 107) (v := 2) dX9_losesIf_107 (by decide) ?_
      refine V_idiv (pc := 108) dX9_losesIf_108 (by decide) ?_
      refine V_is (pc := 109) (fun y => [(0, .ref m), (1, .int (nI w)), (2, .int g), (3, .int tm), (4, .int y), (5, .int t5)]) dX9_losesIf_109 (by decide) (fun _ => rfl) (fun y109 ey109 => ?_)
      subst ey109
      refine V_goto (pc := 111) (t := 150) dX9_losesIf_111 (by decide) ?_
      refine V_il (pc := 150) dX9_losesIf_150 rfl ?_
      refine V_iln (pc := 152) dX9_losesIf_152 rfl rfl ?_
      refine V_cge (pc := 153) (t := 161) dX9_losesIf_153 (by decide) (fun h153 => ?_) (fun h153 => ?_)
      · rw [if_neg (Int32.not_lt.mpr h153)] at h
        refine V_iln (pc := 161) dX9_losesIf_161 rfl rfl ?_
        refine V_iret (pc := 162) dX9_losesIf_162 rfl rfl ?_
        exact h
      · rw [if_pos (Int32.not_le.mp h153)] at h
        refine V_il (pc := 156) dX9_losesIf_156 rfl ?_
        refine V_goto (pc := 158) (t := 162) dX9_losesIf_158 (by decide) ?_
        refine V_iret (pc := 162) dX9_losesIf_162 rfl rfl ?_
        exact h
    | 2, hq, he => 
      cases hq
      have e63 : (A 288 (14 + 4 * w + 0)) = (3 : Int32) := Int32.toInt_inj.mp (by rw [he]; decide)
      have ek : fkind (A 288 (14 + 4 * w + 0)) p tm = 2 * p + 2 := by unfold fkind; rw [e63, if_neg (by decide), if_neg (by decide), if_pos rfl]
      rw [ek] at h
      refine V_iconst (pc := 114) (v := 2) dX9_losesIf_114 (by decide) ?_
      refine V_il (pc := 115) dX9_losesIf_115 rfl ?_
      refine V_imul (pc := 117) dX9_losesIf_117 ?_
      refine V_iconst (pc := 118) (v := 2) dX9_losesIf_118 (by decide) ?_
      refine V_iadd (pc := 119) dX9_losesIf_119 ?_
      refine V_is (pc := 120) (fun y => [(0, .ref m), (1, .int (nI w)), (2, .int g), (3, .int tm), (4, .int y), (5, .int t5)]) dX9_losesIf_120 (by decide) (fun _ => rfl) (fun y120 ey120 => ?_)
      subst ey120
      refine V_goto (pc := 122) (t := 150) dX9_losesIf_122 (by decide) ?_
      refine V_il (pc := 150) dX9_losesIf_150 rfl ?_
      refine V_iln (pc := 152) dX9_losesIf_152 rfl rfl ?_
      refine V_cge (pc := 153) (t := 161) dX9_losesIf_153 (by decide) (fun h153 => ?_) (fun h153 => ?_)
      · rw [if_neg (Int32.not_lt.mpr h153)] at h
        refine V_iln (pc := 161) dX9_losesIf_161 rfl rfl ?_
        refine V_iret (pc := 162) dX9_losesIf_162 rfl rfl ?_
        exact h
      · rw [if_pos (Int32.not_le.mp h153)] at h
        refine V_il (pc := 156) dX9_losesIf_156 rfl ?_
        refine V_goto (pc := 158) (t := 162) dX9_losesIf_158 (by decide) ?_
        refine V_iret (pc := 162) dX9_losesIf_162 rfl rfl ?_
        exact h
    | 3, hq, he => 
      cases hq
      have e63 : (A 288 (14 + 4 * w + 0)) = (4 : Int32) := Int32.toInt_inj.mp (by rw [he]; decide)
      have ek : fkind (A 288 (14 + 4 * w + 0)) p tm = (if tm - tm / 2 * 2 = 0 then p / 2 else 0) := by unfold fkind; rw [e63, if_neg (by decide), if_neg (by decide), if_neg (by decide), if_pos rfl]
      rw [ek] at h
      refine V_iln (pc := 125) dX9_losesIf_125 rfl rfl ?_
      refine V_iconst (pc := 126) (v := 2) dX9_losesIf_126 (by decide) ?_
      refine V_irem (pc := 127) dX9_losesIf_127 (by decide) ?_
      refine V_ne (pc := 128) (t := 138) dX9_losesIf_128 (by decide) (fun h128 => ?_) (fun h128 => ?_)
      · rw [if_neg h128] at h
        refine V_iconst (pc := 138) (v := 0) dX9_losesIf_138 (by decide) ?_
        refine V_is (pc := 139) (fun y => [(0, .ref m), (1, .int (nI w)), (2, .int g), (3, .int tm), (4, .int y), (5, .int t5)]) dX9_losesIf_139 (by decide) (fun _ => rfl) (fun y139 ey139 => ?_)
        subst ey139
        refine V_goto (pc := 141) (t := 150) dX9_losesIf_141 (by decide) ?_
        refine V_il (pc := 150) dX9_losesIf_150 rfl ?_
        refine V_iln (pc := 152) dX9_losesIf_152 rfl rfl ?_
        refine V_cge (pc := 153) (t := 161) dX9_losesIf_153 (by decide) (fun h153 => ?_) (fun h153 => ?_)
        · rw [if_neg (Int32.not_lt.mpr h153)] at h
          refine V_iln (pc := 161) dX9_losesIf_161 rfl rfl ?_
          refine V_iret (pc := 162) dX9_losesIf_162 rfl rfl ?_
          exact h
        · rw [if_pos (Int32.not_le.mp h153)] at h
          refine V_il (pc := 156) dX9_losesIf_156 rfl ?_
          refine V_goto (pc := 158) (t := 162) dX9_losesIf_158 (by decide) ?_
          refine V_iret (pc := 162) dX9_losesIf_162 rfl rfl ?_
          exact h
      · rw [if_pos h128] at h
        refine V_il (pc := 131) dX9_losesIf_131 rfl ?_
        refine V_iconst (pc := 133) (v := 2) dX9_losesIf_133 (by decide) ?_
        refine V_idiv (pc := 134) dX9_losesIf_134 (by decide) ?_
        refine V_goto (pc := 135) (t := 139) dX9_losesIf_135 (by decide) ?_
        refine V_is (pc := 139) (fun y => [(0, .ref m), (1, .int (nI w)), (2, .int g), (3, .int tm), (4, .int y), (5, .int t5)]) dX9_losesIf_139 (by decide) (fun _ => rfl) (fun y139 ey139 => ?_)
        subst ey139
        refine V_goto (pc := 141) (t := 150) dX9_losesIf_141 (by decide) ?_
        refine V_il (pc := 150) dX9_losesIf_150 rfl ?_
        refine V_iln (pc := 152) dX9_losesIf_152 rfl rfl ?_
        refine V_cge (pc := 153) (t := 161) dX9_losesIf_153 (by decide) (fun h153 => ?_) (fun h153 => ?_)
        · rw [if_neg (Int32.not_lt.mpr h153)] at h
          refine V_iln (pc := 161) dX9_losesIf_161 rfl rfl ?_
          refine V_iret (pc := 162) dX9_losesIf_162 rfl rfl ?_
          exact h
        · rw [if_pos (Int32.not_le.mp h153)] at h
          refine V_il (pc := 156) dX9_losesIf_156 rfl ?_
          refine V_goto (pc := 158) (t := 162) dX9_losesIf_158 (by decide) ?_
          refine V_iret (pc := 162) dX9_losesIf_162 rfl rfl ?_
          exact h
    | 4, hq, he => 
      cases hq
      have e63 : (A 288 (14 + 4 * w + 0)) = (5 : Int32) := Int32.toInt_inj.mp (by rw [he]; decide)
      have ek : fkind (A 288 (14 + 4 * w + 0)) p tm = 0 := by unfold fkind; rw [e63, if_neg (by decide), if_neg (by decide), if_neg (by decide), if_neg (by decide), if_pos rfl]
      rw [ek] at h
      refine V_iconst (pc := 144) (v := 0) dX9_losesIf_144 (by decide) ?_
      refine V_is (pc := 145) (fun y => [(0, .ref m), (1, .int (nI w)), (2, .int g), (3, .int tm), (4, .int y), (5, .int t5)]) dX9_losesIf_145 (by decide) (fun _ => rfl) (fun y145 ey145 => ?_)
      subst ey145
      refine V_goto (pc := 147) (t := 150) dX9_losesIf_147 (by decide) ?_
      refine V_il (pc := 150) dX9_losesIf_150 rfl ?_
      refine V_iln (pc := 152) dX9_losesIf_152 rfl rfl ?_
      refine V_cge (pc := 153) (t := 161) dX9_losesIf_153 (by decide) (fun h153 => ?_) (fun h153 => ?_)
      · rw [if_neg (Int32.not_lt.mpr h153)] at h
        refine V_iln (pc := 161) dX9_losesIf_161 rfl rfl ?_
        refine V_iret (pc := 162) dX9_losesIf_162 rfl rfl ?_
        exact h
      · rw [if_pos (Int32.not_le.mp h153)] at h
        refine V_il (pc := 156) dX9_losesIf_156 rfl ?_
        refine V_goto (pc := 158) (t := 162) dX9_losesIf_158 (by decide) ?_
        refine V_iret (pc := 162) dX9_losesIf_162 rfl rfl ?_
        exact h
    | n + 5, hq, _ => simp at hq
  · have ek : fkind (A 288 (14 + 4 * w + 0)) p tm = p := by unfold fkind; rw [if_neg (fun q => by rw [q] at ho63; revert ho63; decide), if_neg (fun q => by rw [q] at ho63; revert ho63; decide), if_neg (fun q => by rw [q] at ho63; revert ho63; decide), if_neg (fun q => by rw [q] at ho63; revert ho63; decide), if_neg (fun q => by rw [q] at ho63; revert ho63; decide)]
    rw [ek] at h
    refine V_il (pc := 150) dX9_losesIf_150 rfl ?_
    refine V_iln (pc := 152) dX9_losesIf_152 rfl rfl ?_
    refine V_cge (pc := 153) (t := 161) dX9_losesIf_153 (by decide) (fun h153 => ?_) (fun h153 => ?_)
    · rw [if_neg (Int32.not_lt.mpr h153)] at h
      refine V_iln (pc := 161) dX9_losesIf_161 rfl rfl ?_
      refine V_iret (pc := 162) dX9_losesIf_162 rfl rfl ?_
      exact h
    · rw [if_pos (Int32.not_le.mp h153)] at h
      refine V_il (pc := 156) dX9_losesIf_156 rfl ?_
      refine V_goto (pc := 158) (t := 162) dX9_losesIf_158 (by decide) ?_
      refine V_iret (pc := 162) dX9_losesIf_162 rfl rfl ?_
      exact h
set_option maxHeartbeats 4000000 in
theorem m_losesIf {x : pX} {d : Nat} {S : pS} {m : Nat} {as : Nat → Nat} {A : Nat → Nat → Int32} {F : Nat → Int32} {Q : Int32 → pS → Prop} (hM : MF S m as) {n nt np w : Nat} {g tm : Int32} (hI : MI (A 288) n nt np) (hw : w < 10) (h : ∀ A2, sc A A2 → Q (floss (A 288) nt w g tm) (mP S m as A2 F)) : PI x (d + 3) M_X9_losesIf [.ref m, .int (nI w), .int g, .int tm] (mP S m as A F) Q := by
  refine PM_of (by decide +kernel) (Nat.le_of_ble_eq_true rfl) ?_
  show V x (d + 3) M_X9_losesIf (qi Q) (0, 0) 0 [(0, .ref m), (1, .int (nI w)), (2, .int g), (3, .int tm)] [] (mP S m as A F)
  refine V_iconst (pc := 0) (v := 1) dX9_losesIf_0 (by decide) ?_
  refine V_is (pc := 1) (fun y => [(0, .ref m), (1, .int (nI w)), (2, .int g), (3, .int tm), (4, .int y)]) dX9_losesIf_1 (by decide) (fun _ => rfl) (fun y1 ey1 => ?_)
  refine V_aln (pc := 3) dX9_losesIf_3 rfl rfl ?_
  refine V_iconst (pc := 4) (v := 0) dX9_losesIf_4 (by decide) ?_
  refine V_cVi0 (pc := 5) (jc_X9_88 dX9_losesIf_5 rfl) rfl rfl (Nat.le_of_ble_eq_true rfl) (mF_k hM) ?_
  refine m_counts hM hI.2.1.1 hI.2.1.2 ?_
  refine V_is (pc := 8) (fun y => [(0, .ref m), (1, .int (nI w)), (2, .int g), (3, .int tm), (4, .int y1), (5, .int y)]) dX9_losesIf_8 (by decide) (fun _ => rfl) (fun y8 ey8 => ?_)
  refine V_il (pc := 10) dX9_losesIf_10 rfl ?_
  refine V_lt (pc := 12) (t := 57) dX9_losesIf_12 (by decide) (fun h12 => ?_) (fun h12 => ?_)
  · have hp : fplain (A 288) nt g tm (A 288 (14 + 4 * w + 1)) = 1 := by unfold fplain; rw [if_pos (by rw [← ey8]; exact h12)]
    obtain rfl : y1 = fplain (A 288) nt g tm (A 288 (14 + 4 * w + 1)) := ey1.trans hp.symm
    exact m_losesIf_T hM hw (h A sc.rf)
  · obtain ⟨t, ht, hft, hkey⟩ : ∃ t, t < nt ∧ fcnt (A 288) 0 nt = nI t ∧ A 288 (154 + 200 * t) = 0 := by
      rcases fcnt_cases (A 288) 0 nt (by have := hI.2.1.2; omega) with z | z
      · exact absurd (by rw [ey8, z]; decide) h12
      · exact z
    obtain rfl : y8 = nI t := ey8.trans hft
    refine V_aln (pc := 15) dX9_losesIf_15 rfl rfl ?_
    refine M_gr (pc := 16) hM 24 312 dX9_losesIf_16 (FL_X9_46 rfl) rfl rfl (by decide) ?_
    refine V_bipush (pc := 19) (v := 103) dX9_losesIf_19 (by decide) ?_
    refine V_iln (pc := 21) dX9_losesIf_21 rfl rfl ?_
    refine M_ias (pc := 22) hM 312 103 dX9_losesIf_22 (by decide) (by decide) (by simp only [fa_lit, nI_add, pk_mul]) (by show (_ : Nat) < 128; omega) ?_
    refine V_aln (pc := 23) dX9_losesIf_23 rfl rfl ?_
    refine M_gr (pc := 24) hM 24 312 dX9_losesIf_24 (FL_X9_46 rfl) rfl rfl (by decide) ?_
    refine V_bipush (pc := 27) (v := 116) dX9_losesIf_27 (by decide) ?_
    refine V_iln (pc := 29) dX9_losesIf_29 rfl rfl ?_
    refine M_ias (pc := 30) hM 312 116 dX9_losesIf_30 (by decide) (by decide) (by simp only [fa_lit, nI_add, pk_mul]) (by show (_ : Nat) < 128; omega) ?_
    refine V_aln (pc := 31) dX9_losesIf_31 rfl rfl ?_
    refine M_gr (pc := 32) hM 24 312 dX9_losesIf_32 (FL_X9_46 rfl) rfl rfl (by decide) ?_
    refine V_bipush (pc := 35) (v := 115) dX9_losesIf_35 (by decide) ?_
    refine V_aln (pc := 37) dX9_losesIf_37 rfl rfl ?_
    refine V_iln (pc := 38) dX9_losesIf_38 rfl rfl ?_
    refine V_iconst (pc := 39) (v := 1) dX9_losesIf_39 (by decide) ?_
    refine V_cVi0 (pc := 40) (jc_X9_67 dX9_losesIf_40 rfl) rfl rfl (Nat.le_of_ble_eq_true rfl) (mF_k hM) ?_
    refine m_of hM (i := w) (j := 1) (by omega) ?_
    refine M_ias (pc := 43) hM 312 115 dX9_losesIf_43 (by decide) (by decide) (by simp only [fa_lit, nI_add, pk_mul]) (by show (_ : Nat) < 128; omega) ?_
    refine V_aln (pc := 44) dX9_losesIf_44 rfl rfl ?_
    refine V_il (pc := 45) dX9_losesIf_45 rfl ?_
    refine V_cVi0 (pc := 47) (jc_X9_92 dX9_losesIf_47 rfl) rfl rfl (Nat.le_of_ble_eq_true rfl) (mF_k hM) ?_
    obtain ⟨many, hwf⟩ := hI.2.2.2 t ht
    refine m_worked (A := va_up (va_up (va_up A 312 (upd (A 312) 103 g)) 312 (upd (va_up A 312 (upd (A 312) 103 g) 312) 116 tm)) 312 (upd (va_up (va_up A 312 (upd (A 312) 103 g)) 312 (upd (va_up A 312 (upd (A 312) 103 g) 312) 116 tm) 312) 115 (va_up (va_up A 312 (upd (A 312) 103 g)) 312 (upd (va_up A 312 (upd (A 312) 103 g) 312) 116 tm) 288 (14 + 4 * w + 1)))) (t := t) (many := many) (nm := nmW g tm (A 288 (14 + 4 * w + 1))) hM ?_ (by have := hI.2.1.2; omega) ?_ (fun A2 hs => ?_)
    · have e : ∀ r1 r2 r3 : Nat → Int32, va_up (va_up (va_up A 312 r1) 312 r2) 312 r3 288 = A 288 := fun r1 r2 r3 => by rw [va_up_ne _ _ (by decide), va_up_ne _ _ (by decide), va_up_ne _ _ (by decide)]
      rw [e]; exact hwf
    · have e : ∀ r1 r2 r3 : Nat → Int32, va_up (va_up (va_up A 312 r1) 312 r2) 312 r3 288 = A 288 := fun r1 r2 r3 => by rw [va_up_ne _ _ (by decide), va_up_ne _ _ (by decide), va_up_ne _ _ (by decide)]
      rw [e, hkey]
      intro c hc
      have e2 : ∀ r1 r2 : Nat → Int32, va_up (va_up A 312 r1) 312 r2 288 = A 288 := fun r1 r2 => by rw [va_up_ne _ _ (by decide), va_up_ne _ _ (by decide)]
      rw [va_up_self, va_up_self, va_up_self, e2]
      unfold nmW
      have hc2 : c = 103 ∨ c = 116 ∨ c = 115 := by
        rcases hc with ⟨-, z⟩ | ⟨z, -⟩ | ⟨z, -⟩
        · exact z
        · exact absurd z (by decide)
        · exact absurd z (by decide)
      rcases hc2 with rfl | rfl | rfl
      · rw [pk_un (by decide), pk_un (by decide), pk_us]; rfl
      · rw [pk_un (by decide), pk_us]; rfl
      · rw [pk_us]; rfl
    refine V_bipush (pc := 50) (v := 99) dX9_losesIf_50 (by decide) ?_
    refine V_cSi0 (pc := 52) (jc_X9_95 dX9_losesIf_52 rfl) rfl rfl (Nat.le_of_ble_eq_true rfl) ?_
    refine m_within ?_
    refine V_is (pc := 55) (fun y => [(0, .ref m), (1, .int (nI w)), (2, .int g), (3, .int tm), (4, .int y), (5, .int (nI t))]) dX9_losesIf_55 (by decide) (fun _ => rfl) (fun y55 ey55 => ?_)
    have es : A2 288 = A 288 := by rw [hs 288 (by decide) (by decide), va_up_ne _ _ (by decide), va_up_ne _ _ (by decide), va_up_ne _ _ (by decide)]
    have ew : ∀ r1 r2 r3 : Nat → Int32, va_up (va_up (va_up A 312 r1) 312 r2) 312 r3 288 = A 288 := fun r1 r2 r3 => by rw [va_up_ne _ _ (by decide), va_up_ne _ _ (by decide), va_up_ne _ _ (by decide)]
    have hp : fplain (A 288) nt g tm (A 288 (14 + 4 * w + 1)) = y55 := by
      unfold fplain
      rw [if_neg (by rw [hft]; exact nI_pos (by have := hI.2.1.2; omega)), hft, nI_clamp (by have := hI.2.1.2; omega), hwf.1, nI_clamp (by have := hwf.2.2.1; omega), ey55, ew]
    refine m_losesIf_T hM hw ?_
    rw [es, ← hp]
    exact h A2 (fun f a b => by rw [hs f a b, va_up_ne _ _ a, va_up_ne _ _ a, va_up_ne _ _ a])
set_option maxHeartbeats 4000000 in
theorem m_loses {x : pX} {d : Nat} {S : pS} {m : Nat} {as : Nat → Nat} {A : Nat → Nat → Int32} {F : Nat → Int32} {Q : Int32 → pS → Prop} (hM : MF S m as) {n nt np w : Nat} (hI : MI (A 288) n nt np) (hw : w < 10) (h : ∀ A2, sc A A2 → Q (floss (A 288) nt w (A 288 (14 + 4 * w + 2)) (A 288 (14 + 4 * w + 3))) (mP S m as A2 F)) : PI x (d + 4) M_X9_loses [.ref m, .int (nI w)] (mP S m as A F) Q := by
  refine PM_of (by decide +kernel) (Nat.le_of_ble_eq_true rfl) ?_
  show V x (d + 4) M_X9_loses (qi Q) (0, 0) 0 [(0, .ref m), (1, .int (nI w))] [] (mP S m as A F)
  refine V_aln (pc := 0) dX9_loses_0 rfl rfl ?_
  refine V_iln (pc := 1) dX9_loses_1 rfl rfl ?_
  refine V_aln (pc := 2) dX9_loses_2 rfl rfl ?_
  refine V_iln (pc := 3) dX9_loses_3 rfl rfl ?_
  refine V_iconst (pc := 4) (v := 2) dX9_loses_4 (by decide) ?_
  refine V_cVi0 (pc := 5) (jc_X9_67 dX9_loses_5 rfl) rfl rfl (Nat.le_of_ble_eq_true rfl) (mF_k hM) ?_
  refine m_of hM (i := w) (j := 2) (by omega) ?_
  refine V_aln (pc := 8) dX9_loses_8 rfl rfl ?_
  refine V_iln (pc := 9) dX9_loses_9 rfl rfl ?_
  refine V_iconst (pc := 10) (v := 3) dX9_loses_10 (by decide) ?_
  refine V_cVi0 (pc := 11) (jc_X9_67 dX9_loses_11 rfl) rfl rfl (Nat.le_of_ble_eq_true rfl) (mF_k hM) ?_
  refine m_of hM (i := w) (j := 3) (by omega) ?_
  refine V_cVi0 (pc := 14) (jc_X9_98 dX9_loses_14 rfl) rfl rfl (Nat.le_of_ble_eq_true rfl) (mF_k hM) ?_
  refine m_losesIf hM hI hw (fun A2 hs => ?_)
  refine V_iret (pc := 17) dX9_loses_17 rfl rfl ?_
  exact h A2 hs
noncomputable def ffall (σ : Nat → Int32) (nt w : Nat) : Int32 := hld (10 * floss σ nt w (σ (14 + 4 * w + 2)) (σ (14 + 4 * w + 3))) (σ (14 + 4 * w + 2))
set_option maxHeartbeats 4000000 in
theorem m_losesAtFall {x : pX} {d : Nat} {S : pS} {m : Nat} {as : Nat → Nat} {A : Nat → Nat → Int32} {F : Nat → Int32} {Q : Int32 → pS → Prop} (hM : MF S m as) {n nt np w : Nat} (hI : MI (A 288) n nt np) (hw : w < 10) (h : ∀ A2, sc A A2 → Q (ffall (A 288) nt w) (mP S m as A2 F)) : PI x (d + 5) M_X9_losesAtFall [.ref m, .int (nI w)] (mP S m as A F) Q := by
  refine PM_of (by decide +kernel) (Nat.le_of_ble_eq_true rfl) ?_
  show V x (d + 5) M_X9_losesAtFall (qi Q) (0, 0) 0 [(0, .ref m), (1, .int (nI w))] [] (mP S m as A F)
  refine V_bipush (pc := 0) (v := 10) dX9_losesAtFall_0 (by decide) ?_
  refine V_aln (pc := 2) dX9_losesAtFall_2 rfl rfl ?_
  refine V_iln (pc := 3) dX9_losesAtFall_3 rfl rfl ?_
  refine V_cVi0 (pc := 4) (jc_X9_102 dX9_losesAtFall_4 rfl) rfl rfl (Nat.le_of_ble_eq_true rfl) (mF_k hM) ?_
  refine m_loses hM hI hw (fun A2 hs => ?_)
  refine V_imul (pc := 7) dX9_losesAtFall_7 ?_
  refine V_aln (pc := 8) dX9_losesAtFall_8 rfl rfl ?_
  refine V_iln (pc := 9) dX9_losesAtFall_9 rfl rfl ?_
  refine V_iconst (pc := 10) (v := 2) dX9_losesAtFall_10 (by decide) ?_
  refine V_cVi0 (pc := 11) (jc_X9_67 dX9_losesAtFall_11 rfl) rfl rfl (Nat.le_of_ble_eq_true rfl) (mF_k hM) ?_
  refine m_of hM (i := w) (j := 2) (by omega) ?_
  refine V_cSi0 (pc := 14) (jc_X9_95 dX9_losesAtFall_14 rfl) rfl rfl (Nat.le_of_ble_eq_true rfl) ?_
  refine m_within ?_
  refine V_iret (pc := 17) dX9_losesAtFall_17 rfl rfl ?_
  have es : A2 288 = A 288 := hs 288 (by decide) (by decide)
  rw [es]; exact h A2 hs
set_option maxHeartbeats 4000000 in
theorem m_worth {x : pX} {d : Nat} {S : pS} {m : Nat} {as : Nat → Nat} {A : Nat → Nat → Int32} {F : Nat → Int32} {Q : Int32 → pS → Prop} (hM : MF S m as) {w : Nat} (hw : w < 10) (h : Q (fworth (A 288 (14 + 4 * w + 0)) (A 288 (14 + 4 * w + 2)) (A 288 (14 + 4 * w + 3))) (mP S m as A F)) : PI x (d + 2) M_X9_worth [.ref m, .int (nI w)] (mP S m as A F) Q := by
  refine PM_of (by decide +kernel) (Nat.le_of_ble_eq_true rfl) ?_
  show V x (d + 2) M_X9_worth (qi Q) (0, 0) 0 [(0, .ref m), (1, .int (nI w))] [] (mP S m as A F)
  refine V_aln (pc := 0) dX9_worth_0 rfl rfl ?_
  refine V_iln (pc := 1) dX9_worth_1 rfl rfl ?_
  refine V_iconst (pc := 2) (v := 2) dX9_worth_2 (by decide) ?_
  refine V_cVi0 (pc := 3) (jc_X9_67 dX9_worth_3 rfl) rfl rfl (Nat.le_of_ble_eq_true rfl) (mF_k hM) ?_
  refine m_of hM (i := w) (j := 2) (by omega) ?_
  refine V_isn (pc := 6) (fun y => [(0, .ref m), (1, .int (nI w)), (2, .int y)]) dX9_worth_6 rfl (by decide) (fun _ => rfl) (fun y6 ey6 => ?_)
  subst ey6
  refine V_aln (pc := 7) dX9_worth_7 rfl rfl ?_
  refine V_iln (pc := 8) dX9_worth_8 rfl rfl ?_
  refine V_iconst (pc := 9) (v := 0) dX9_worth_9 (by decide) ?_
  refine V_cVi0 (pc := 10) (jc_X9_67 dX9_worth_10 rfl) rfl rfl (Nat.le_of_ble_eq_true rfl) (mF_k hM) ?_
  refine m_of hM (i := w) (j := 0) (by omega) ?_
  refine V_tab (pc := 13) (t := 77) [48, 52, 56, 67, 74] dX9_worth_13 (by decide) (by decide) (by decide) (fun i13 q13 hq13 he13 => ?_) (fun ho13 => ?_)
  · match i13, hq13, he13 with
    | 0, hq, he => 
      cases hq
      have e13 : (A 288 (14 + 4 * w + 0)) = (1 : Int32) := Int32.toInt_inj.mp (by rw [he]; decide)
      have ek : fworth (A 288 (14 + 4 * w + 0)) (A 288 (14 + 4 * w + 2)) (A 288 (14 + 4 * w + 3)) = (A 288 (14 + 4 * w + 2)) - 2 := by unfold fworth; rw [e13, if_pos rfl]
      rw [ek] at h
      refine V_iln (pc := 48) dX9_worth_48 rfl rfl ?_
      refine V_iconst (pc := 49) (v := 2) dX9_worth_49 (by decide) ?_
      refine V_isub (pc := 50) dX9_worth_50 ?_
      refine V_iret (pc := 51) dX9_worth_51 rfl rfl ?_
      exact h
    | 1, hq, he => 
      cases hq
      have e13 : (A 288 (14 + 4 * w + 0)) = (2 : Int32) := Int32.toInt_inj.mp (by rw [he]; decide)
      have ek : fworth (A 288 (14 + 4 * w + 0)) (A 288 (14 + 4 * w + 2)) (A 288 (14 + 4 * w + 3)) = 2 * (A 288 (14 + 4 * w + 2)) := by unfold fworth; rw [e13, if_neg (by decide), if_pos rfl]
      rw [ek] at h
      refine V_iconst (pc := 52) (v := 2) dX9_worth_52 (by decide) ?_
      refine V_iln (pc := 53) dX9_worth_53 rfl rfl ?_
      refine V_imul (pc := 54) dX9_worth_54 ?_
      refine V_iret (pc := 55) dX9_worth_55 rfl rfl ?_
      exact h
    | 2, hq, he => 
      cases hq
      have e13 : (A 288 (14 + 4 * w + 0)) = (3 : Int32) := Int32.toInt_inj.mp (by rw [he]; decide)
      have ek : fworth (A 288 (14 + 4 * w + 0)) (A 288 (14 + 4 * w + 2)) (A 288 (14 + 4 * w + 3)) = (A 288 (14 + 4 * w + 2)) - 2 - A 288 (14 + 4 * w + 3) := by unfold fworth; rw [e13, if_neg (by decide), if_neg (by decide), if_pos rfl]
      rw [ek] at h
      refine V_iln (pc := 56) dX9_worth_56 rfl rfl ?_
      refine V_iconst (pc := 57) (v := 2) dX9_worth_57 (by decide) ?_
      refine V_isub (pc := 58) dX9_worth_58 ?_
      refine V_aln (pc := 59) dX9_worth_59 rfl rfl ?_
      refine V_iln (pc := 60) dX9_worth_60 rfl rfl ?_
      refine V_iconst (pc := 61) (v := 3) dX9_worth_61 (by decide) ?_
      refine V_cVi0 (pc := 62) (jc_X9_67 dX9_worth_62 rfl) rfl rfl (Nat.le_of_ble_eq_true rfl) (mF_k hM) ?_
      refine m_of hM (i := w) (j := 3) (by omega) ?_
      refine V_isub (pc := 65) dX9_worth_65 ?_
      refine V_iret (pc := 66) dX9_worth_66 rfl rfl ?_
      exact h
    | 3, hq, he => 
      cases hq
      have e13 : (A 288 (14 + 4 * w + 0)) = (4 : Int32) := Int32.toInt_inj.mp (by rw [he]; decide)
      have ek : fworth (A 288 (14 + 4 * w + 0)) (A 288 (14 + 4 * w + 2)) (A 288 (14 + 4 * w + 3)) = 2 * (A 288 (14 + 4 * w + 2)) + 100 := by unfold fworth; rw [e13, if_neg (by decide), if_neg (by decide), if_neg (by decide), if_pos rfl]
      rw [ek] at h
      refine V_iconst (pc := 67) (v := 2) dX9_worth_67 (by decide) ?_
      refine V_iln (pc := 68) dX9_worth_68 rfl rfl ?_
      refine V_imul (pc := 69) dX9_worth_69 ?_
      refine V_bipush (pc := 70) (v := 100) dX9_worth_70 (by decide) ?_
      refine V_iadd (pc := 72) dX9_worth_72 ?_
      refine V_iret (pc := 73) dX9_worth_73 rfl rfl ?_
      exact h
    | 4, hq, he => 
      cases hq
      have e13 : (A 288 (14 + 4 * w + 0)) = (5 : Int32) := Int32.toInt_inj.mp (by rw [he]; decide)
      have ek : fworth (A 288 (14 + 4 * w + 0)) (A 288 (14 + 4 * w + 2)) (A 288 (14 + 4 * w + 3)) = 7 := by unfold fworth; rw [e13, if_neg (by decide), if_neg (by decide), if_neg (by decide), if_neg (by decide), if_pos rfl]
      rw [ek] at h
      refine V_bipush (pc := 74) (v := 7) dX9_worth_74 (by decide) ?_
      refine V_iret (pc := 76) dX9_worth_76 rfl rfl ?_
      exact h
    | n + 5, hq, _ => simp at hq
  · unfold fworth at h
    rw [if_neg (fun q => by rw [q] at ho13; revert ho13; decide), if_neg (fun q => by rw [q] at ho13; revert ho13; decide), if_neg (fun q => by rw [q] at ho13; revert ho13; decide), if_neg (fun q => by rw [q] at ho13; revert ho13; decide), if_neg (fun q => by rw [q] at ho13; revert ho13; decide)] at h
    refine V_iln (pc := 77) dX9_worth_77 rfl rfl ?_
    refine V_iret (pc := 78) dX9_worth_78 rfl rfl ?_
    exact h
