/-! ===== the model: what comes out ===== -/
def butW (w : Int32) : Int32 := if w < 0 then -1 else ((1 : Int32) <<< (w &&& 31)) ^^^ (-1)
abbrev ffit (σ : Nat → Int32) (n i : Nat) (but : Int32) : Prop := fsay σ n (σ (54 + 5 * i) &&& but) (σ (54 + 5 * i + 1) &&& but) (σ (54 + 5 * i + 3)) (σ (54 + 5 * i + 4)) = σ (54 + 5 * i + 2)
set_option maxRecDepth 100000 in
set_option maxHeartbeats 4000000 in
theorem m_fits {x : pX} {d : Nat} {S : pS} {m : Nat} {as : Nat → Nat} {A : Nat → Nat → Int32} {F : Nat → Int32} {Q : Int32 → pS → Prop} (hM : MF S m as) {n i : Nat} {w : Int32} (hn : A 288 0 = nI n) (hn10 : n ≤ 10) (hi : i < 20) (h1 : ffit (A 288) n i (butW w) → Q 1 (mP S m as A F)) (h0 : ¬ ffit (A 288) n i (butW w) → Q 0 (mP S m as A F)) : PI x (d + 4) M_X9_fits [.ref m, .int (nI i), .int w] (mP S m as A F) Q := by
  refine PM_of (by decide +kernel) (Nat.le_of_ble_eq_true rfl) ?_
  show V x (d + 4) M_X9_fits (qi Q) (0, 0) 0 [(0, .ref m), (1, .int (nI i)), (2, .int w)] [] (mP S m as A F)
  refine V_bipush (pc := 0) (v := 54) dX9_fits_0 (by decide) ?_
  refine V_iconst (pc := 2) (v := 5) dX9_fits_2 (by decide) ?_
  refine V_iln (pc := 3) dX9_fits_3 rfl rfl ?_
  refine V_imul (pc := 4) dX9_fits_4 ?_
  refine V_iadd (pc := 5) dX9_fits_5 ?_
  refine V_isn (pc := 6) (fun y => [(0, .ref m), (1, .int (nI i)), (2, .int w), (3, .int y)]) dX9_fits_6 rfl (by decide) (fun _ => rfl) (fun y6 ey6 => ?_)
  obtain rfl : y6 = nI (54 + 5 * i) := by rw [ey6]; simp only [fa_lit, nI_add, pk_mul]
  refine V_iln (pc := 7) dX9_fits_7 rfl rfl ?_
  refine V_ge (pc := 8) (t := 15) dX9_fits_8 (by decide) (fun h8 => ?_) (fun h8 => ?_)
  · refine V_iconst (pc := 15) (v := 1) dX9_fits_15 (by decide) ?_
    refine V_iln (pc := 16) dX9_fits_16 rfl rfl ?_
    refine V_ishl (pc := 17) dX9_fits_17 ?_
    refine V_iconst (pc := 18) (v := (-1)) dX9_fits_18 (by decide) ?_
    refine V_ixor (pc := 19) dX9_fits_19 ?_
    refine V_is (pc := 20) (fun y => [(0, .ref m), (1, .int (nI i)), (2, .int w), (3, .int (nI (54 + 5 * i))), (4, .int y)]) dX9_fits_20 (by decide) (fun _ => rfl) (fun y20 ey20 => ?_)
    obtain rfl : y20 = butW w := by unfold butW; rw [ey20]; first | rw [if_neg (Int32.not_lt.mpr h8)] | rw [if_pos (Int32.not_le.mp h8)]
    refine V_aln (pc := 22) dX9_fits_22 rfl rfl ?_
    refine V_aln (pc := 23) dX9_fits_23 rfl rfl ?_
    refine M_gr (pc := 24) hM 0 288 dX9_fits_24 (FL_X9_7 rfl) rfl rfl (by decide) ?_
    refine V_iln (pc := 27) dX9_fits_27 rfl rfl ?_
    refine M_ia (pc := 28) hM 288 (54 + 5 * i) dX9_fits_28 (by decide) (by decide) rfl (by show (_ : Nat) < 3154; omega) ?_
    refine V_il (pc := 29) dX9_fits_29 rfl ?_
    refine V_iand (pc := 31) dX9_fits_31 ?_
    refine V_aln (pc := 32) dX9_fits_32 rfl rfl ?_
    refine M_gr (pc := 33) hM 0 288 dX9_fits_33 (FL_X9_7 rfl) rfl rfl (by decide) ?_
    refine V_iln (pc := 36) dX9_fits_36 rfl rfl ?_
    refine V_iconst (pc := 37) (v := 1) dX9_fits_37 (by decide) ?_
    refine V_iadd (pc := 38) dX9_fits_38 ?_
    refine M_ia (pc := 39) hM 288 ((54 + 5 * i) + 1) dX9_fits_39 (by decide) (by decide) (by simp only [fa_lit, nI_add, pk_mul]) (by show (_ : Nat) < 3154; omega) ?_
    refine V_il (pc := 40) dX9_fits_40 rfl ?_
    refine V_iand (pc := 42) dX9_fits_42 ?_
    refine V_aln (pc := 43) dX9_fits_43 rfl rfl ?_
    refine M_gr (pc := 44) hM 0 288 dX9_fits_44 (FL_X9_7 rfl) rfl rfl (by decide) ?_
    refine V_iln (pc := 47) dX9_fits_47 rfl rfl ?_
    refine V_iconst (pc := 48) (v := 3) dX9_fits_48 (by decide) ?_
    refine V_iadd (pc := 49) dX9_fits_49 ?_
    refine M_ia (pc := 50) hM 288 ((54 + 5 * i) + 3) dX9_fits_50 (by decide) (by decide) (by simp only [fa_lit, nI_add, pk_mul]) (by show (_ : Nat) < 3154; omega) ?_
    refine V_aln (pc := 51) dX9_fits_51 rfl rfl ?_
    refine M_gr (pc := 52) hM 0 288 dX9_fits_52 (FL_X9_7 rfl) rfl rfl (by decide) ?_
    refine V_iln (pc := 55) dX9_fits_55 rfl rfl ?_
    refine V_iconst (pc := 56) (v := 4) dX9_fits_56 (by decide) ?_
    refine V_iadd (pc := 57) dX9_fits_57 ?_
    refine M_ia (pc := 58) hM 288 ((54 + 5 * i) + 4) dX9_fits_58 (by decide) (by decide) (by simp only [fa_lit, nI_add, pk_mul]) (by show (_ : Nat) < 3154; omega) ?_
    refine V_cVi0 (pc := 59) (jc_X9_143 dX9_fits_59 rfl) rfl rfl (Nat.le_of_ble_eq_true rfl) (mF_k hM) ?_
    refine m_saysBy hM hn hn10 ?_
    refine V_aln (pc := 62) dX9_fits_62 rfl rfl ?_
    refine M_gr (pc := 63) hM 0 288 dX9_fits_63 (FL_X9_7 rfl) rfl rfl (by decide) ?_
    refine V_iln (pc := 66) dX9_fits_66 rfl rfl ?_
    refine V_iconst (pc := 67) (v := 2) dX9_fits_67 (by decide) ?_
    refine V_iadd (pc := 68) dX9_fits_68 ?_
    refine M_ia (pc := 69) hM 288 ((54 + 5 * i) + 2) dX9_fits_69 (by decide) (by decide) (by simp only [fa_lit, nI_add, pk_mul]) (by show (_ : Nat) < 3154; omega) ?_
    refine V_cne (pc := 70) (t := 77) dX9_fits_70 (by decide) (fun h70 => ?_) (fun h70 => ?_)
    · have q := h0 h70
      refine V_iconst (pc := 77) (v := 0) dX9_fits_77 (by decide) ?_
      refine V_iret (pc := 78) dX9_fits_78 rfl rfl ?_
      exact q
    · have q := h1 h70
      refine V_iconst (pc := 73) (v := 1) dX9_fits_73 (by decide) ?_
      refine V_goto (pc := 74) (t := 78) dX9_fits_74 (by decide) ?_
      refine V_iret (pc := 78) dX9_fits_78 rfl rfl ?_
      exact q
  · refine V_iconst (pc := 11) (v := (-1)) dX9_fits_11 (by decide) ?_
    refine V_goto (pc := 12) (t := 20) dX9_fits_12 (by decide) ?_
    refine V_is (pc := 20) (fun y => [(0, .ref m), (1, .int (nI i)), (2, .int w), (3, .int (nI (54 + 5 * i))), (4, .int y)]) dX9_fits_20 (by decide) (fun _ => rfl) (fun y20 ey20 => ?_)
    obtain rfl : y20 = butW w := by unfold butW; rw [ey20]; first | rw [if_neg (Int32.not_lt.mpr h8)] | rw [if_pos (Int32.not_le.mp h8)]
    refine V_aln (pc := 22) dX9_fits_22 rfl rfl ?_
    refine V_aln (pc := 23) dX9_fits_23 rfl rfl ?_
    refine M_gr (pc := 24) hM 0 288 dX9_fits_24 (FL_X9_7 rfl) rfl rfl (by decide) ?_
    refine V_iln (pc := 27) dX9_fits_27 rfl rfl ?_
    refine M_ia (pc := 28) hM 288 (54 + 5 * i) dX9_fits_28 (by decide) (by decide) rfl (by show (_ : Nat) < 3154; omega) ?_
    refine V_il (pc := 29) dX9_fits_29 rfl ?_
    refine V_iand (pc := 31) dX9_fits_31 ?_
    refine V_aln (pc := 32) dX9_fits_32 rfl rfl ?_
    refine M_gr (pc := 33) hM 0 288 dX9_fits_33 (FL_X9_7 rfl) rfl rfl (by decide) ?_
    refine V_iln (pc := 36) dX9_fits_36 rfl rfl ?_
    refine V_iconst (pc := 37) (v := 1) dX9_fits_37 (by decide) ?_
    refine V_iadd (pc := 38) dX9_fits_38 ?_
    refine M_ia (pc := 39) hM 288 ((54 + 5 * i) + 1) dX9_fits_39 (by decide) (by decide) (by simp only [fa_lit, nI_add, pk_mul]) (by show (_ : Nat) < 3154; omega) ?_
    refine V_il (pc := 40) dX9_fits_40 rfl ?_
    refine V_iand (pc := 42) dX9_fits_42 ?_
    refine V_aln (pc := 43) dX9_fits_43 rfl rfl ?_
    refine M_gr (pc := 44) hM 0 288 dX9_fits_44 (FL_X9_7 rfl) rfl rfl (by decide) ?_
    refine V_iln (pc := 47) dX9_fits_47 rfl rfl ?_
    refine V_iconst (pc := 48) (v := 3) dX9_fits_48 (by decide) ?_
    refine V_iadd (pc := 49) dX9_fits_49 ?_
    refine M_ia (pc := 50) hM 288 ((54 + 5 * i) + 3) dX9_fits_50 (by decide) (by decide) (by simp only [fa_lit, nI_add, pk_mul]) (by show (_ : Nat) < 3154; omega) ?_
    refine V_aln (pc := 51) dX9_fits_51 rfl rfl ?_
    refine M_gr (pc := 52) hM 0 288 dX9_fits_52 (FL_X9_7 rfl) rfl rfl (by decide) ?_
    refine V_iln (pc := 55) dX9_fits_55 rfl rfl ?_
    refine V_iconst (pc := 56) (v := 4) dX9_fits_56 (by decide) ?_
    refine V_iadd (pc := 57) dX9_fits_57 ?_
    refine M_ia (pc := 58) hM 288 ((54 + 5 * i) + 4) dX9_fits_58 (by decide) (by decide) (by simp only [fa_lit, nI_add, pk_mul]) (by show (_ : Nat) < 3154; omega) ?_
    refine V_cVi0 (pc := 59) (jc_X9_143 dX9_fits_59 rfl) rfl rfl (Nat.le_of_ble_eq_true rfl) (mF_k hM) ?_
    refine m_saysBy hM hn hn10 ?_
    refine V_aln (pc := 62) dX9_fits_62 rfl rfl ?_
    refine M_gr (pc := 63) hM 0 288 dX9_fits_63 (FL_X9_7 rfl) rfl rfl (by decide) ?_
    refine V_iln (pc := 66) dX9_fits_66 rfl rfl ?_
    refine V_iconst (pc := 67) (v := 2) dX9_fits_67 (by decide) ?_
    refine V_iadd (pc := 68) dX9_fits_68 ?_
    refine M_ia (pc := 69) hM 288 ((54 + 5 * i) + 2) dX9_fits_69 (by decide) (by decide) (by simp only [fa_lit, nI_add, pk_mul]) (by show (_ : Nat) < 3154; omega) ?_
    refine V_cne (pc := 70) (t := 77) dX9_fits_70 (by decide) (fun h70 => ?_) (fun h70 => ?_)
    · have q := h0 h70
      refine V_iconst (pc := 77) (v := 0) dX9_fits_77 (by decide) ?_
      refine V_iret (pc := 78) dX9_fits_78 rfl rfl ?_
      exact q
    · have q := h1 h70
      refine V_iconst (pc := 73) (v := 1) dX9_fits_73 (by decide) ?_
      refine V_goto (pc := 74) (t := 78) dX9_fits_74 (by decide) ?_
      refine V_iret (pc := 78) dX9_fits_78 rfl rfl ?_
      exact q
def o_page (σ : Nat → Int32) (n np : Nat) (i what : Int32) : Int32 := if 0 ≤ what.toInt ∧ what.toInt ≤ 3 then (if 0 ≤ i.toInt ∧ i.toInt < np then (if what < 3 then σ (54 + 5 * i.toNatClampNeg + what.toNatClampNeg) else if ffit σ n i.toNatClampNeg (-1) then 1 else 0) else -1000000005) else -1000000001
set_option maxRecDepth 100000 in
set_option maxHeartbeats 4000000 in
theorem M_page {x : pX} {d : Nat} {S : pS} {m : Nat} {as : Nat → Nat} {A : Nat → Nat → Int32} {F : Nat → Int32} {Q : Int32 → pS → Prop} (hM : MF S m as) {n nt np : Nat} {i what : Int32} (hI : MI (A 288) n nt np) (h : Q (o_page (A 288) n np i what) (mP S m as A F)) : PI x (d + 5) M_X9_page [.ref m, .int i, .int what] (mP S m as A F) Q := by
  have hn10 := hI.1.2
  have hn20 := hI.2.2.1.2
  unfold o_page at h
  refine PM_of (by decide +kernel) (Nat.le_of_ble_eq_true rfl) ?_
  show V x (d + 5) M_X9_page (qi Q) (0, 0) 0 [(0, .ref m), (1, .int i), (2, .int what)] [] (mP S m as A F)
  refine V_iln (pc := 0) dX9_page_0 rfl rfl ?_
  refine V_i2l (pc := 1) dX9_page_1 ?_
  refine V_lconst (pc := 2) (v := 0) dX9_page_2 (by decide) ?_
  refine V_ldc2 (pc := 3) dX9_page_3 (KC_X9_172 rfl) ?_
  refine V_cSi0 (pc := 6) (jc_X9_62 dX9_page_6 rfl) rfl rfl (Nat.le_of_ble_eq_true rfl) ?_
  refine m_isIn (l := 0) 0 3 (by decide) (by decide) (fun a1 a2 => ?_) (fun a0 => ?_)
  · refine V_ne (pc := 9) (t := 15) dX9_page_9 (by decide) (fun _ => ?_) (fun h => absurd h (by decide))
    refine V_iln (pc := 15) dX9_page_15 rfl rfl ?_
    refine V_i2l (pc := 16) dX9_page_16 ?_
    refine V_lconst (pc := 17) (v := 0) dX9_page_17 (by decide) ?_
    refine V_aln (pc := 18) dX9_page_18 rfl rfl ?_
    refine M_gr (pc := 19) hM 0 288 dX9_page_19 (FL_X9_7 rfl) rfl rfl (by decide) ?_
    refine V_iconst (pc := 22) (v := 5) dX9_page_22 (by decide) ?_
    refine M_ia (pc := 23) hM 288 5 dX9_page_23 (by decide) (by decide) (by simp only [fa_lit, nI_add, pk_mul]) (by show (_ : Nat) < 3154; omega) ?_
    refine V_iconst (pc := 24) (v := 1) dX9_page_24 (by decide) ?_
    refine V_isub (pc := 25) dX9_page_25 ?_
    refine V_i2l (pc := 26) dX9_page_26 ?_
    refine V_cSi0 (pc := 27) (jc_X9_62 dX9_page_27 rfl) rfl rfl (Nat.le_of_ble_eq_true rfl) ?_
    refine m_isIn (l := 0) 0 (np - 1) (by decide) (by rw [i64_toInt, hI.2.2.1.1, show (1 : Int32) = nI 1 from rfl, pk_sub_toInt (by omega) (by decide)]; rfl) (fun c1 c2 => ?_) (fun c0 => ?_)
    · obtain ⟨j, hj, e, e2, e3⟩ := idx_of (w := i) (n := np) (by omega) c1 (by omega)
      subst e
      obtain ⟨q, hq, f, f2, f3⟩ := idx_of (w := what) (n := 4) (by decide) a1 (by omega)
      subst f
      rw [if_pos (by omega), if_pos (by omega), e3, f3] at h
      refine V_ne (pc := 30) (t := 36) dX9_page_30 (by decide) (fun _ => ?_) (fun h => absurd h (by decide))
      refine V_iln (pc := 36) dX9_page_36 rfl rfl ?_
      refine V_iconst (pc := 37) (v := 3) dX9_page_37 (by decide) ?_
      refine V_cge (pc := 38) (t := 57) dX9_page_38 (by decide) (fun h38 => ?_) (fun h38 => ?_)
      · rw [if_neg (Int32.not_lt.mpr h38)] at h
        refine V_aln (pc := 57) dX9_page_57 rfl rfl ?_
        refine V_iln (pc := 58) dX9_page_58 rfl rfl ?_
        refine V_iconst (pc := 59) (v := (-1)) dX9_page_59 (by decide) ?_
        refine V_cVi0 (pc := 60) (jc_X9_174 dX9_page_60 rfl) rfl rfl (Nat.le_of_ble_eq_true rfl) (mF_k hM) ?_
        refine m_fits hM hI.1.1 hn10 (i := j) (by omega) (fun z => ?_) (fun z => ?_)
        · rw [show butW (-1) = -1 from by decide] at z
          rw [if_pos z] at h
          refine V_eq (pc := 63) (t := 70) dX9_page_63 (by decide) (fun h => absurd h (by decide)) (fun _ => ?_)
          refine V_iconst (pc := 66) (v := 1) dX9_page_66 (by decide) ?_
          refine V_goto (pc := 67) (t := 71) dX9_page_67 (by decide) ?_
          refine V_iret (pc := 71) dX9_page_71 rfl rfl ?_
          exact h
        · rw [show butW (-1) = -1 from by decide] at z
          rw [if_neg z] at h
          refine V_eq (pc := 63) (t := 70) dX9_page_63 (by decide) (fun _ => ?_) (fun h => absurd h (by decide))
          refine V_iconst (pc := 70) (v := 0) dX9_page_70 (by decide) ?_
          refine V_iret (pc := 71) dX9_page_71 rfl rfl ?_
          exact h
      · rw [if_pos (Int32.not_le.mp h38)] at h
        refine V_aln (pc := 41) dX9_page_41 rfl rfl ?_
        refine M_gr (pc := 42) hM 0 288 dX9_page_42 (FL_X9_7 rfl) rfl rfl (by decide) ?_
        refine V_bipush (pc := 45) (v := 54) dX9_page_45 (by decide) ?_
        refine V_iconst (pc := 47) (v := 5) dX9_page_47 (by decide) ?_
        refine V_iln (pc := 48) dX9_page_48 rfl rfl ?_
        refine V_imul (pc := 49) dX9_page_49 ?_
        refine V_iadd (pc := 50) dX9_page_50 ?_
        refine V_iln (pc := 51) dX9_page_51 rfl rfl ?_
        refine V_iadd (pc := 52) dX9_page_52 ?_
        refine M_ia (pc := 53) hM 288 (54 + 5 * j + q) dX9_page_53 (by decide) (by decide) (by simp only [fa_lit, nI_add, pk_mul]) (by show (_ : Nat) < 3154; omega) ?_
        refine V_goto (pc := 54) (t := 71) dX9_page_54 (by decide) ?_
        refine V_iret (pc := 71) dX9_page_71 rfl rfl ?_
        exact h
    · refine V_ne (pc := 30) (t := 36) dX9_page_30 (by decide) (fun h => absurd h (by decide)) (fun _ => ?_)
      refine V_ldc (pc := 33) dX9_page_33 (KC_X9_61 rfl) ?_
      refine V_iret (pc := 35) dX9_page_35 rfl rfl ?_
      rw [if_pos (by omega), if_neg (by omega)] at h
      exact h
  · refine V_ne (pc := 9) (t := 15) dX9_page_9 (by decide) (fun h => absurd h (by decide)) (fun _ => ?_)
    refine V_ldc (pc := 12) dX9_page_12 (KC_X9_82 rfl) ?_
    refine V_iret (pc := 14) dX9_page_14 rfl rfl ?_
    rw [if_neg (by omega)] at h
    exact h
/-- a weight after so many weighings: its grains, its times -/
noncomputable def bh (σ : Nat → Int32) (nt w : Nat) : Nat → Int32 × Int32
  | 0 => (σ (14 + 4 * w + 2), σ (14 + 4 * w + 3))
  | k + 1 => ((bh σ nt w k).1 - floss σ nt w (bh σ nt w k).1 (bh σ nt w k).2, (bh σ nt w k).2 + 1)
set_option maxRecDepth 100000 in
set_option maxHeartbeats 4000000 in
theorem m_behindOf_L {x : pX} {d : Nat} {S : pS} {m : Nat} {as : Nat → Nat} {F : Nat → Int32} {b : Nat × Nat} {Q : Int32 → pS → Prop} (hM : MF S m as) {A0 : Nat → Nat → Int32} {n nt np w N : Nat} (hN : N ≤ 500) (hI : MI (A0 288) n nt np) (hw : w < 10) (h : ∀ A2, sc A0 A2 → Q (bh (A0 288) nt w N).1 (mP S m as A2 F)) : ∀ (c k : Nat), k + c = N → ∀ (A : Nat → Nat → Int32), sc A0 A → V x (d + 4) M_X9_behindOf (qi Q) b 18 [(0, .ref m), (1, .int (nI w)), (2, .int (nI N)), (3, .int ((bh (A0 288) nt w k).1)), (4, .int ((bh (A0 288) nt w k).2)), (5, .int (nI k))] [] (mP S m as A F) := by
  intro c
  induction c with
  | zero =>
    intro k hk A hA
    have eA := sc_self hA
    have hIA : MI (A 288) n nt np := by rw [eA]; exact hI
    refine V_il (pc := 18) dX9_behindOf_18 rfl ?_
    refine V_iln (pc := 20) dX9_behindOf_20 rfl rfl ?_
    refine V_cge (pc := 21) (t := 44) dX9_behindOf_21 (by decide) (fun h21 => ?_) (fun h21 => ?_)
    · refine V_iln (pc := 44) dX9_behindOf_44 rfl rfl ?_
      refine V_iret (pc := 45) dX9_behindOf_45 rfl rfl ?_
      obtain rfl : k = N := by omega
      exact h A hA
    · exact absurd (nI_le (by omega) (by omega)) h21
  | succ c ih =>
    intro k hk A hA
    have eA := sc_self hA
    have hIA : MI (A 288) n nt np := by rw [eA]; exact hI
    refine V_il (pc := 18) dX9_behindOf_18 rfl ?_
    refine V_iln (pc := 20) dX9_behindOf_20 rfl rfl ?_
    refine V_cge (pc := 21) (t := 44) dX9_behindOf_21 (by decide) (fun h21 => ?_) (fun h21 => ?_)
    · exact absurd h21 (nI_ge (by omega) (by omega))
    · refine V_iln (pc := 24) dX9_behindOf_24 rfl rfl ?_
      refine V_aln (pc := 25) dX9_behindOf_25 rfl rfl ?_
      refine V_iln (pc := 26) dX9_behindOf_26 rfl rfl ?_
      refine V_iln (pc := 27) dX9_behindOf_27 rfl rfl ?_
      refine V_il (pc := 28) dX9_behindOf_28 rfl ?_
      refine V_cVi0 (pc := 30) (jc_X9_98 dX9_behindOf_30 rfl) rfl rfl (Nat.le_of_ble_eq_true rfl) (mF_k hM) ?_
      refine m_losesIf hM hIA hw (fun A2 hs => ?_)
      refine V_isub (pc := 33) dX9_behindOf_33 ?_
      refine V_isn (pc := 34) (fun y => [(0, .ref m), (1, .int (nI w)), (2, .int (nI N)), (3, .int y), (4, .int ((bh (A0 288) nt w k).2)), (5, .int (nI k))]) dX9_behindOf_34 rfl (by decide) (fun _ => rfl) (fun y34 ey34 => ?_)
      refine V_inc (pc := 35) (fun y => [(0, .ref m), (1, .int (nI w)), (2, .int (nI N)), (3, .int y34), (4, .int y), (5, .int (nI k))]) (w := 1) dX9_behindOf_35 (by decide) (by decide) rfl (fun _ => rfl) (fun y35 ey35 => ?_)
      refine V_inc (pc := 38) (fun y => [(0, .ref m), (1, .int (nI w)), (2, .int (nI N)), (3, .int y34), (4, .int y35), (5, .int y)]) (w := 1) dX9_behindOf_38 (by decide) (by decide) rfl (fun _ => rfl) (fun y38 ey38 => ?_)
      obtain rfl : y38 = nI (k + 1) := by rw [ey38]; exact nI_1 _
      refine V_goto (pc := 41) (t := 18) dX9_behindOf_41 (by decide) ?_
      obtain rfl : y34 = (bh (A0 288) nt w (k + 1)).1 := by rw [ey34, eA]; rfl
      obtain rfl : y35 = (bh (A0 288) nt w (k + 1)).2 := ey35
      exact ih (k + 1) (by omega) A2 (hA.tr hs)
set_option maxRecDepth 100000 in
set_option maxHeartbeats 4000000 in
theorem m_behindOf {x : pX} {d : Nat} {S : pS} {m : Nat} {as : Nat → Nat} {A : Nat → Nat → Int32} {F : Nat → Int32} {Q : Int32 → pS → Prop} (hM : MF S m as) {n nt np w N : Nat} (hN : N ≤ 500) (hI : MI (A 288) n nt np) (hw : w < 10) (h : ∀ A2, sc A A2 → Q (bh (A 288) nt w N).1 (mP S m as A2 F)) : PI x (d + 4) M_X9_behindOf [.ref m, .int (nI w), .int (nI N)] (mP S m as A F) Q := by
  refine PM_of (by decide +kernel) (Nat.le_of_ble_eq_true rfl) ?_
  show V x (d + 4) M_X9_behindOf (qi Q) (0, 0) 0 [(0, .ref m), (1, .int (nI w)), (2, .int (nI N))] [] (mP S m as A F)
  refine V_aln (pc := 0) dX9_behindOf_0 rfl rfl ?_
  refine V_iln (pc := 1) dX9_behindOf_1 rfl rfl ?_
  refine V_iconst (pc := 2) (v := 2) dX9_behindOf_2 (by decide) ?_
  refine V_cVi0 (pc := 3) (jc_X9_67 dX9_behindOf_3 rfl) rfl rfl (Nat.le_of_ble_eq_true rfl) (mF_k hM) ?_
  refine m_of hM (i := w) (j := 2) (by omega) ?_
  refine V_isn (pc := 6) (fun y => [(0, .ref m), (1, .int (nI w)), (2, .int (nI N)), (3, .int y)]) dX9_behindOf_6 rfl (by decide) (fun _ => rfl) (fun y6 ey6 => ?_)
  refine V_aln (pc := 7) dX9_behindOf_7 rfl rfl ?_
  refine V_iln (pc := 8) dX9_behindOf_8 rfl rfl ?_
  refine V_iconst (pc := 9) (v := 3) dX9_behindOf_9 (by decide) ?_
  refine V_cVi0 (pc := 10) (jc_X9_67 dX9_behindOf_10 rfl) rfl rfl (Nat.le_of_ble_eq_true rfl) (mF_k hM) ?_
  refine m_of hM (i := w) (j := 3) (by omega) ?_
  refine V_is (pc := 13) (fun y => [(0, .ref m), (1, .int (nI w)), (2, .int (nI N)), (3, .int y6), (4, .int y)]) dX9_behindOf_13 (by decide) (fun _ => rfl) (fun y13 ey13 => ?_)
  refine V_iconst (pc := 15) (v := 0) dX9_behindOf_15 (by decide) ?_
  refine V_is (pc := 16) (fun y => [(0, .ref m), (1, .int (nI w)), (2, .int (nI N)), (3, .int y6), (4, .int y13), (5, .int y)]) dX9_behindOf_16 (by decide) (fun _ => rfl) (fun y16 ey16 => ?_)
  obtain rfl : y16 = nI 0 := ey16
  subst ey6; subst ey13
  exact m_behindOf_L hM hN hI hw h N 0 (by omega) A sc.rf
noncomputable def o_behind (σ : Nat → Int32) (n nt : Nat) (w v : Int32) : Int32 := if 0 ≤ w.toInt ∧ w.toInt < n ∧ 0 ≤ v.toInt ∧ v.toInt ≤ 500 then (bh σ nt w.toNatClampNeg v.toNatClampNeg).1 else -1000000001
set_option maxRecDepth 100000 in
set_option maxHeartbeats 4000000 in
theorem M_behind {x : pX} {d : Nat} {S : pS} {m : Nat} {as : Nat → Nat} {A : Nat → Nat → Int32} {F : Nat → Int32} {Q : Int32 → pS → Prop} (hM : MF S m as) {n nt np : Nat} {w v : Int32} (hI : MI (A 288) n nt np) (h : ∀ A2, sc A A2 → Q (o_behind (A 288) n nt w v) (mP S m as A2 F)) : PI x (d + 5) M_X9_behind [.ref m, .int w, .int v] (mP S m as A F) Q := by
  have hn10 := hI.1.2
  refine PM_of (by decide +kernel) (Nat.le_of_ble_eq_true rfl) ?_
  show V x (d + 5) M_X9_behind (qi Q) (0, 0) 0 [(0, .ref m), (1, .int w), (2, .int v)] [] (mP S m as A F)
  refine V_aln (pc := 0) dX9_behind_0 rfl rfl ?_
  refine V_iln (pc := 1) dX9_behind_1 rfl rfl ?_
  refine V_cVi0 (pc := 2) (jc_X9_105 dX9_behind_2 rfl) rfl rfl (Nat.le_of_ble_eq_true rfl) (mF_k hM) ?_
  refine m_isWeight hM hI.1.1 (by omega) (fun i hi ei ti ci => ?_) (fun ni => ?_)
  · subst ei
    refine V_eq (pc := 5) (t := 29) dX9_behind_5 (by decide) (fun h => absurd h (by decide)) (fun _ => ?_)
    refine V_iln (pc := 8) dX9_behind_8 rfl rfl ?_
    refine V_i2l (pc := 9) dX9_behind_9 ?_
    refine V_lconst (pc := 10) (v := 0) dX9_behind_10 (by decide) ?_
    refine V_ldc2 (pc := 11) dX9_behind_11 (KC_X9_177 rfl) ?_
    refine V_cSi0 (pc := 14) (jc_X9_62 dX9_behind_14 rfl) rfl rfl (Nat.le_of_ble_eq_true rfl) ?_
    refine m_isIn (l := 0) 0 500 (by decide) (by decide) (fun a1 a2 => ?_) (fun a0 => ?_)
    · refine V_eq (pc := 17) (t := 29) dX9_behind_17 (by decide) (fun h => absurd h (by decide)) (fun _ => ?_)
      refine V_aln (pc := 20) dX9_behind_20 rfl rfl ?_
      refine V_iln (pc := 21) dX9_behind_21 rfl rfl ?_
      refine V_iln (pc := 22) dX9_behind_22 rfl rfl ?_
      refine V_cVi0 (pc := 23) (jc_X9_179 dX9_behind_23 rfl) rfl rfl (Nat.le_of_ble_eq_true rfl) (mF_k hM) ?_
      obtain ⟨q, hq, f, f2, f3⟩ := idx_of (w := v) (n := 501) (by decide) a1 (by omega)
      subst f
      unfold o_behind at h; rw [if_pos (by omega), ci, f3] at h
      refine m_behindOf hM (by omega) hI (by omega) (fun A2 hs => ?_)
      refine V_goto (pc := 26) (t := 31) dX9_behind_26 (by decide) ?_
      refine V_iret (pc := 31) dX9_behind_31 rfl rfl ?_
      first | exact h A2 hs | (unfold o_behind at h; rw [if_neg (by omega)] at h; exact h A sc.rf)
    · refine V_eq (pc := 17) (t := 29) dX9_behind_17 (by decide) (fun _ => ?_) (fun h => absurd h (by decide))
      refine V_ldc (pc := 29) dX9_behind_29 (KC_X9_82 rfl) ?_
      refine V_iret (pc := 31) dX9_behind_31 rfl rfl ?_
      first | exact h A2 hs | (unfold o_behind at h; rw [if_neg (by omega)] at h; exact h A sc.rf)
  · refine V_eq (pc := 5) (t := 29) dX9_behind_5 (by decide) (fun _ => ?_) (fun h => absurd h (by decide))
    refine V_ldc (pc := 29) dX9_behind_29 (KC_X9_82 rfl) ?_
    refine V_iret (pc := 31) dX9_behind_31 rfl rfl ?_
    first | exact h A2 hs | (unfold o_behind at h; rw [if_neg (by omega)] at h; exact h A sc.rf)
/-- how often it can be weighed till it has fewer than g grains: at most f times more from c on -/
noncomputable def flast (σ : Nat → Int32) (nt w : Nat) (g : Int32) : Nat → Nat → Nat
  | 0, c => c
  | f + 1, c => if g ≤ (bh σ nt w c).1 then flast σ nt w g f (c + 1) else c
noncomputable def o_lasts (σ : Nat → Int32) (n nt : Nat) (w g : Int32) : Int32 := if 0 ≤ w.toInt ∧ w.toInt < n ∧ 1 ≤ g.toInt ∧ g.toInt ≤ 999 then nI (flast σ nt w.toNatClampNeg g 999 0) else -1000000001
set_option maxRecDepth 100000 in
set_option maxHeartbeats 4000000 in
theorem m_lasts_L {x : pX} {d : Nat} {S : pS} {m : Nat} {as : Nat → Nat} {F : Nat → Int32} {b : Nat × Nat} {Q : Int32 → pS → Prop} (hM : MF S m as) {A0 : Nat → Nat → Int32} {n nt np w r : Nat} {g : Int32} (hI : MI (A0 288) n nt np) (hw : w < 10) (h : ∀ A2, sc A0 A2 → Q (nI r) (mP S m as A2 F)) : ∀ (c k : Nat), k + c = 999 → ∀ (A : Nat → Nat → Int32), sc A0 A → flast (A0 288) nt w g c k = r → V x (d + 4) M_X9_lasts (qi Q) b 41 [(0, .ref m), (1, .int (nI w)), (2, .int g), (3, .int ((bh (A0 288) nt w k).1)), (4, .int ((bh (A0 288) nt w k).2)), (5, .int (nI k))] [] (mP S m as A F) := by
  intro c
  induction c with
  | zero =>
    intro k hk A hA hr
    have eA := sc_self hA
    have hIA : MI (A 288) n nt np := by rw [eA]; exact hI
    refine V_iln (pc := 41) dX9_lasts_41 rfl rfl ?_
    refine V_iln (pc := 42) dX9_lasts_42 rfl rfl ?_
    refine V_clt (pc := 43) (t := 74) dX9_lasts_43 (by decide) (fun h43 => ?_) (fun h43 => ?_)
    · refine V_il (pc := 74) dX9_lasts_74 rfl ?_
      refine V_iret (pc := 76) dX9_lasts_76 rfl rfl ?_
      obtain rfl : k = r := by rw [← hr]; rfl
      exact h A hA
    · refine V_il (pc := 46) dX9_lasts_46 rfl ?_
      refine V_sipush (pc := 48) (v := 999) dX9_lasts_48 (by decide) ?_
      refine V_cge (pc := 51) (t := 74) dX9_lasts_51 (by decide) (fun h51 => ?_) (fun h51 => ?_)
      · refine V_il (pc := 74) dX9_lasts_74 rfl ?_
        refine V_iret (pc := 76) dX9_lasts_76 rfl rfl ?_
        obtain rfl : k = r := by rw [← hr]; rfl
        exact h A hA
      · exact absurd (nI_le (a := 999) (by omega) (by omega)) h51
  | succ c ih =>
    intro k hk A hA hr
    have eA := sc_self hA
    have hIA : MI (A 288) n nt np := by rw [eA]; exact hI
    refine V_iln (pc := 41) dX9_lasts_41 rfl rfl ?_
    refine V_iln (pc := 42) dX9_lasts_42 rfl rfl ?_
    refine V_clt (pc := 43) (t := 74) dX9_lasts_43 (by decide) (fun h43 => ?_) (fun h43 => ?_)
    · have hr2 : k = r := by rw [← hr]; unfold flast; rw [if_neg (Int32.not_le.mpr h43)]
      refine V_il (pc := 74) dX9_lasts_74 rfl ?_
      refine V_iret (pc := 76) dX9_lasts_76 rfl rfl ?_
      subst hr2
      exact h A hA
    · have hr2 : flast (A0 288) nt w g c (k + 1) = r := by rw [← hr]; show _ = (if _ then _ else _); rw [if_pos (Int32.not_lt.mp h43)]
      refine V_il (pc := 46) dX9_lasts_46 rfl ?_
      refine V_sipush (pc := 48) (v := 999) dX9_lasts_48 (by decide) ?_
      refine V_cge (pc := 51) (t := 74) dX9_lasts_51 (by decide) (fun h51 => ?_) (fun h51 => ?_)
      · exact absurd h51 (nI_ge (b := 999) (by omega) (by decide))
      · refine V_iln (pc := 54) dX9_lasts_54 rfl rfl ?_
        refine V_aln (pc := 55) dX9_lasts_55 rfl rfl ?_
        refine V_iln (pc := 56) dX9_lasts_56 rfl rfl ?_
        refine V_iln (pc := 57) dX9_lasts_57 rfl rfl ?_
        refine V_il (pc := 58) dX9_lasts_58 rfl ?_
        refine V_cVi0 (pc := 60) (jc_X9_98 dX9_lasts_60 rfl) rfl rfl (Nat.le_of_ble_eq_true rfl) (mF_k hM) ?_
        refine m_losesIf hM hIA hw (fun A2 hs => ?_)
        refine V_isub (pc := 63) dX9_lasts_63 ?_
        refine V_isn (pc := 64) (fun y => [(0, .ref m), (1, .int (nI w)), (2, .int g), (3, .int y), (4, .int ((bh (A0 288) nt w k).2)), (5, .int (nI k))]) dX9_lasts_64 rfl (by decide) (fun _ => rfl) (fun y64 ey64 => ?_)
        refine V_inc (pc := 65) (fun y => [(0, .ref m), (1, .int (nI w)), (2, .int g), (3, .int y64), (4, .int y), (5, .int (nI k))]) (w := 1) dX9_lasts_65 (by decide) (by decide) rfl (fun _ => rfl) (fun y65 ey65 => ?_)
        refine V_inc (pc := 68) (fun y => [(0, .ref m), (1, .int (nI w)), (2, .int g), (3, .int y64), (4, .int y65), (5, .int y)]) (w := 1) dX9_lasts_68 (by decide) (by decide) rfl (fun _ => rfl) (fun y68 ey68 => ?_)
        obtain rfl : y68 = nI (k + 1) := by rw [ey68]; exact nI_1 _
        refine V_goto (pc := 71) (t := 41) dX9_lasts_71 (by decide) ?_
        obtain rfl : y64 = (bh (A0 288) nt w (k + 1)).1 := by rw [ey64, eA]; rfl
        obtain rfl : y65 = (bh (A0 288) nt w (k + 1)).2 := ey65
        exact ih (k + 1) (by omega) A2 (hA.tr hs) hr2
set_option maxRecDepth 100000 in
set_option maxHeartbeats 4000000 in
theorem M_lasts {x : pX} {d : Nat} {S : pS} {m : Nat} {as : Nat → Nat} {A : Nat → Nat → Int32} {F : Nat → Int32} {Q : Int32 → pS → Prop} (hM : MF S m as) {n nt np : Nat} {w g : Int32} (hI : MI (A 288) n nt np) (h : ∀ A2, sc A A2 → Q (o_lasts (A 288) n nt w g) (mP S m as A2 F)) : PI x (d + 4) M_X9_lasts [.ref m, .int w, .int g] (mP S m as A F) Q := by
  have hn10 := hI.1.2
  refine PM_of (by decide +kernel) (Nat.le_of_ble_eq_true rfl) ?_
  show V x (d + 4) M_X9_lasts (qi Q) (0, 0) 0 [(0, .ref m), (1, .int w), (2, .int g)] [] (mP S m as A F)
  refine V_aln (pc := 0) dX9_lasts_0 rfl rfl ?_
  refine V_iln (pc := 1) dX9_lasts_1 rfl rfl ?_
  refine V_cVi0 (pc := 2) (jc_X9_105 dX9_lasts_2 rfl) rfl rfl (Nat.le_of_ble_eq_true rfl) (mF_k hM) ?_
  refine m_isWeight hM hI.1.1 (by omega) (fun i hi ei ti ci => ?_) (fun ni => ?_)
  · subst ei
    refine V_eq (pc := 5) (t := 20) dX9_lasts_5 (by decide) (fun h => absurd h (by decide)) (fun _ => ?_)
    refine V_iln (pc := 8) dX9_lasts_8 rfl rfl ?_
    refine V_i2l (pc := 9) dX9_lasts_9 ?_
    refine V_lconst (pc := 10) (v := 1) dX9_lasts_10 (by decide) ?_
    refine V_ldc2 (pc := 11) dX9_lasts_11 (KC_X9_80 rfl) ?_
    refine V_cSi0 (pc := 14) (jc_X9_62 dX9_lasts_14 rfl) rfl rfl (Nat.le_of_ble_eq_true rfl) ?_
    refine m_isIn (l := 1) 1 999 (by decide) (by decide) (fun a1 a2 => ?_) (fun a0 => ?_)
    · refine V_ne (pc := 17) (t := 23) dX9_lasts_17 (by decide) (fun _ => ?_) (fun h => absurd h (by decide))
      refine V_aln (pc := 23) dX9_lasts_23 rfl rfl ?_
      refine V_iln (pc := 24) dX9_lasts_24 rfl rfl ?_
      refine V_iconst (pc := 25) (v := 2) dX9_lasts_25 (by decide) ?_
      refine V_cVi0 (pc := 26) (jc_X9_67 dX9_lasts_26 rfl) rfl rfl (Nat.le_of_ble_eq_true rfl) (mF_k hM) ?_
      refine m_of hM (i := i) (j := 2) (by omega) ?_
      refine V_isn (pc := 29) (fun y => [(0, .ref m), (1, .int (nI i)), (2, .int g), (3, .int y)]) dX9_lasts_29 rfl (by decide) (fun _ => rfl) (fun y29 ey29 => ?_)
      refine V_aln (pc := 30) dX9_lasts_30 rfl rfl ?_
      refine V_iln (pc := 31) dX9_lasts_31 rfl rfl ?_
      refine V_iconst (pc := 32) (v := 3) dX9_lasts_32 (by decide) ?_
      refine V_cVi0 (pc := 33) (jc_X9_67 dX9_lasts_33 rfl) rfl rfl (Nat.le_of_ble_eq_true rfl) (mF_k hM) ?_
      refine m_of hM (i := i) (j := 3) (by omega) ?_
      refine V_is (pc := 36) (fun y => [(0, .ref m), (1, .int (nI i)), (2, .int g), (3, .int y29), (4, .int y)]) dX9_lasts_36 (by decide) (fun _ => rfl) (fun y36 ey36 => ?_)
      refine V_iconst (pc := 38) (v := 0) dX9_lasts_38 (by decide) ?_
      refine V_is (pc := 39) (fun y => [(0, .ref m), (1, .int (nI i)), (2, .int g), (3, .int y29), (4, .int y36), (5, .int y)]) dX9_lasts_39 (by decide) (fun _ => rfl) (fun y39 ey39 => ?_)
      obtain rfl : y39 = nI 0 := ey39
      subst ey29; subst ey36
      unfold o_lasts at h; rw [if_pos (by omega), ci] at h
      exact m_lasts_L hM hI (by omega) h 999 0 (by omega) A sc.rf rfl
    · refine V_ne (pc := 17) (t := 23) dX9_lasts_17 (by decide) (fun h => absurd h (by decide)) (fun _ => ?_)
      refine V_ldc (pc := 20) dX9_lasts_20 (KC_X9_82 rfl) ?_
      refine V_iret (pc := 22) dX9_lasts_22 rfl rfl ?_
      unfold o_lasts at h; rw [if_neg (by omega)] at h
      exact h A sc.rf
  · refine V_eq (pc := 5) (t := 20) dX9_lasts_5 (by decide) (fun _ => ?_) (fun h => absurd h (by decide))
    refine V_ldc (pc := 20) dX9_lasts_20 (KC_X9_82 rfl) ?_
    refine V_iret (pc := 22) dX9_lasts_22 rfl rfl ?_
    unfold o_lasts at h; rw [if_neg (by omega)] at h
    exact h A sc.rf
/-! bits of small sets -/
theorem amt_k : ∀ k, k < 11 → ((nI k &&& 31 : Int32).toBitVec.smod 32).toNat = k := by decide +kernel
theorem sb_eq {L k : Nat} (hL : L < 2 ^ 31) (hk : k < 11) : sb (nI L) k = nI (L / 2 ^ k % 2) := by
  unfold sb
  rw [pk_shrN hL _ k (amt_k k hk), show (1 : Int32) = nI (2 ^ 1 - 1) from rfl, fa_mask]
theorem sb_bit {L k : Nat} (hL : L < 2 ^ 31) (hk : k < 11) : sb (nI L) k = 1 ↔ L.testBit k = true := by
  rw [sb_eq hL hk, show (1 : Int32) = nI 1 from rfl, nI_eq (by omega) (by decide), Nat.testBit_eq_decide_div_mod_eq]
  simp
theorem clr_bit : ∀ j, j < 10 → ∀ L, L < 1024 → L.testBit j = true → (nI L &&& (((1 : Int32) <<< (nI j &&& 31)) ^^^ (-1))) = nI (L - 2 ^ j) := by decide +kernel
