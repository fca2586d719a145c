/-! ===== the model: sheets, slots, rows, the tape ===== -/
set_option maxRecDepth 100000 in
set_option maxHeartbeats 4000000 in
theorem m_isSheet {x : pX} {d : Nat} {S : pS} {Q : Int32 → pS → Prop} {k : Int32} (h1 : ∀ i, i < 4 → k = nI i → (nI i).toInt = i → (nI i).toNatClampNeg = i → Q 1 S) (h0 : ¬ (0 ≤ k.toInt ∧ k.toInt ≤ 3) → Q 0 S) : PI x (d + 2) M_X9_isSheet [.int k] S Q := by
  refine PM_of (by decide +kernel) (Nat.le_of_ble_eq_true rfl) ?_
  show V x (d + 2) M_X9_isSheet (qi Q) (0, 0) 0 [(0, .int k)] [] S
  refine V_iln (pc := 0) dX9_isSheet_0 rfl rfl ?_
  refine V_i2l (pc := 1) dX9_isSheet_1 ?_
  refine V_lconst (pc := 2) (v := 0) dX9_isSheet_2 (by decide) ?_
  refine V_ldc2 (pc := 3) dX9_isSheet_3 (KC_X9_172 rfl) ?_
  refine V_cSi0 (pc := 6) (jc_X9_62 dX9_isSheet_6 rfl) rfl rfl (Nat.le_of_ble_eq_true rfl) ?_
  refine m_isIn (l := 0) 0 3 (by decide) (by decide) (fun a1 a2 => ?_) (fun a0 => ?_)
  · obtain ⟨i, hi, e, e2, e3⟩ := idx_of (w := k) (n := 4) (by decide) a1 (by omega)
    refine V_iret (pc := 9) dX9_isSheet_9 rfl rfl ?_
    first | exact h1 i hi e e2 e3 | exact h0 a0
  · refine V_iret (pc := 9) dX9_isSheet_9 rfl rfl ?_
    first | exact h1 i hi e e2 e3 | exact h0 a0
set_option maxRecDepth 100000 in
set_option maxHeartbeats 4000000 in
theorem m_isSlot {x : pX} {d : Nat} {S : pS} {Q : Int32 → pS → Prop} {k : Int32} (h1 : ∀ i, i < 5 → k = nI i → (nI i).toInt = i → (nI i).toNatClampNeg = i → Q 1 S) (h0 : ¬ (0 ≤ k.toInt ∧ k.toInt ≤ 4) → Q 0 S) : PI x (d + 2) M_X9_isSlot [.int k] S Q := by
  refine PM_of (by decide +kernel) (Nat.le_of_ble_eq_true rfl) ?_
  show V x (d + 2) M_X9_isSlot (qi Q) (0, 0) 0 [(0, .int k)] [] S
  refine V_iln (pc := 0) dX9_isSlot_0 rfl rfl ?_
  refine V_i2l (pc := 1) dX9_isSlot_1 ?_
  refine V_lconst (pc := 2) (v := 0) dX9_isSlot_2 (by decide) ?_
  refine V_ldc2 (pc := 3) dX9_isSlot_3 (KC_X9_309 rfl) ?_
  refine V_cSi0 (pc := 6) (jc_X9_62 dX9_isSlot_6 rfl) rfl rfl (Nat.le_of_ble_eq_true rfl) ?_
  refine m_isIn (l := 0) 0 4 (by decide) (by decide) (fun a1 a2 => ?_) (fun a0 => ?_)
  · obtain ⟨i, hi, e, e2, e3⟩ := idx_of (w := k) (n := 5) (by decide) a1 (by omega)
    refine V_iret (pc := 9) dX9_isSlot_9 rfl rfl ?_
    first | exact h1 i hi e e2 e3 | exact h0 a0
  · refine V_iret (pc := 9) dX9_isSlot_9 rfl rfl ?_
    first | exact h1 i hi e e2 e3 | exact h0 a0
/-- sheets and slots are in order: sorts, sizes -/
def SI (ts tz : Nat → Int32) : Prop := ∀ k, k < 4 → (ts k = -1 ∨ ts k = 0 ∨ ts k = 1) ∧ ∃ z : Nat, z ≤ 24 ∧ tz k = nI z
/-- a row of 24 numbers made nought, the first j of them -/
def clr (f : Nat → Int32) (k j : Nat) : Nat → Int32 := fun i => if 24 * k ≤ i ∧ i < 24 * k + j then 0 else f i
theorem clr_s (f : Nat → Int32) (k j : Nat) : upd (clr f k j) (24 * k + j) 0 = clr f k (j + 1) := by
  funext i
  by_cases hi : i = 24 * k + j
  · subst hi; rw [pk_us]; unfold clr; rw [if_pos (by omega)]
  · rw [pk_un hi]; unfold clr
    by_cases h2 : 24 * k ≤ i ∧ i < 24 * k + j
    · rw [if_pos h2, if_pos (by omega)]
    · rw [if_neg h2, if_neg (by omega)]
theorem clr_0 (f : Nat → Int32) (k : Nat) : clr f k 0 = f := by funext i; unfold clr; rw [if_neg (by omega)]
theorem vu_self {α : Type} (f : Nat → α) (k : Nat) : va_up f k (f k) = f := by
  funext j
  by_cases h : j = k
  · subst h; exact va_up_self _ _ _
  · exact va_up_ne _ _ h
theorem vu_vu {α : Type} (f : Nat → α) (k : Nat) (v w : α) : va_up (va_up f k v) k w = va_up f k w := bx_uu f k v w
/-- the sheets' three arrays -/
def uT (A : Nat → Nat → Int32) (q : (Nat → Int32) × (Nat → Int32) × (Nat → Int32)) : Nat → Nat → Int32 := va_up (va_up (va_up A 292 q.1) 293 q.2.1) 294 q.2.2
theorem uT_self (A : Nat → Nat → Int32) : uT A (A 292, A 293, A 294) = A := by
  funext f
  unfold uT
  by_cases h1 : f = 294
  · subst h1; exact va_up_self _ _ _
  · rw [va_up_ne _ _ h1]
    by_cases h2 : f = 293
    · subst h2; exact va_up_self _ _ _
    · rw [va_up_ne _ _ h2]
      by_cases h3 : f = 292
      · subst h3; exact va_up_self _ _ _
      · exact va_up_ne _ _ h3
def o_sheet (q : (Nat → Int32) × (Nat → Int32) × (Nat → Int32)) (k sort n : Int32) : Int32 × ((Nat → Int32) × (Nat → Int32) × (Nat → Int32)) :=
  if (0 ≤ k.toInt ∧ k.toInt ≤ 3) ∧ (-1 ≤ sort.toInt ∧ sort.toInt ≤ 1) ∧ ¬ (0 ≤ sort.toInt ∧ 24 < n.toInt) then (if 0 ≤ sort.toInt ∧ n.toInt < 0 then (-1000000014, q) else (if sort.toInt < 0 then 0 else n, upd q.1 k.toNatClampNeg sort, upd q.2.1 k.toNatClampNeg (if sort.toInt < 0 then 0 else n), clr q.2.2 k.toNatClampNeg 24)) else (-1000000001, q)
set_option maxRecDepth 100000 in
set_option maxHeartbeats 4000000 in
theorem m_sheet_L {x : pX} {d : Nat} {S : pS} {m : Nat} {as : Nat → Nat} {F : Nat → Int32} {b : Nat × Nat} {Q : Int32 → pS → Prop} (hM : MF S m as) {A0 : Nat → Nat → Int32} {f : Nat → Int32} {i : Nat} {sort n : Int32} (hi : i < 4) (h : Q (A0 293 i) (mP S m as (va_up A0 294 (clr f i 24)) F)) : ∀ (c k : Nat), k + c = 24 → V x (d + 3) M_X9_sheet (qi Q) b 69 [(0, .ref m), (1, .int (nI i)), (2, .int sort), (3, .int n), (4, .int (nI k))] [] (mP S m as (va_up A0 294 (clr f i k)) F) := by
  intro c
  induction c with
  | zero =>
    intro k hk 
    refine V_il (pc := 69) dX9_sheet_69 rfl ?_
    refine V_bipush (pc := 71) (v := 24) dX9_sheet_71 (by decide) ?_
    refine V_cge (pc := 73) (t := 95) dX9_sheet_73 (by decide) (fun h73 => ?_) (fun h73 => ?_)
    · refine V_aln (pc := 95) dX9_sheet_95 rfl rfl ?_
      refine M_gr (pc := 96) hM 5 293 dX9_sheet_96 (FL_X9_22 rfl) rfl rfl (by decide) ?_
      refine V_iln (pc := 99) dX9_sheet_99 rfl rfl ?_
      refine M_ia (pc := 100) hM 293 i dX9_sheet_100 (by decide) (by decide) rfl (by show (_ : Nat) < 4; omega) ?_
      refine V_iret (pc := 101) dX9_sheet_101 rfl rfl ?_
      obtain rfl : k = 24 := by omega
      rw [va_up_ne _ _ (by decide)]; exact h
    · exact absurd (nI_le (a := 24) (by omega) (by omega)) h73
  | succ c ih =>
    intro k hk 
    refine V_il (pc := 69) dX9_sheet_69 rfl ?_
    refine V_bipush (pc := 71) (v := 24) dX9_sheet_71 (by decide) ?_
    refine V_cge (pc := 73) (t := 95) dX9_sheet_73 (by decide) (fun h73 => ?_) (fun h73 => ?_)
    · exact absurd h73 (nI_ge (b := 24) (by omega) (by decide))
    · refine V_aln (pc := 76) dX9_sheet_76 rfl rfl ?_
      refine M_gr (pc := 77) hM 6 294 dX9_sheet_77 (FL_X9_25 rfl) rfl rfl (by decide) ?_
      refine V_bipush (pc := 80) (v := 24) dX9_sheet_80 (by decide) ?_
      refine V_iln (pc := 82) dX9_sheet_82 rfl rfl ?_
      refine V_imul (pc := 83) dX9_sheet_83 ?_
      refine V_il (pc := 84) dX9_sheet_84 rfl ?_
      refine V_iadd (pc := 86) dX9_sheet_86 ?_
      refine V_iconst (pc := 87) (v := 0) dX9_sheet_87 (by decide) ?_
      refine M_ias (pc := 88) hM 294 (24 * i + k) dX9_sheet_88 (by decide) (by decide) (by simp only [fa_lit, nI_add, pk_mul]) (by show (_ : Nat) < 96; omega) ?_
      refine V_inc (pc := 89) (fun y => [(0, .ref m), (1, .int (nI i)), (2, .int sort), (3, .int n), (4, .int y)]) (w := 1) dX9_sheet_89 (by decide) (by decide) rfl (fun _ => rfl) (fun y89 ey89 => ?_)
      obtain rfl : y89 = nI (k + 1) := by rw [ey89]; exact nI_1 _
      refine V_goto (pc := 92) (t := 69) dX9_sheet_92 (by decide) ?_
      rw [va_up_self, vu_vu, clr_s]
      exact ih (k + 1) (by omega)
set_option maxRecDepth 100000 in
set_option maxHeartbeats 4000000 in
theorem M_sheet {x : pX} {d : Nat} {S : pS} {m : Nat} {as : Nat → Nat} {A : Nat → Nat → Int32} {F : Nat → Int32} {Q : Int32 → pS → Prop} (hM : MF S m as) {k sort n : Int32} (h : Q (o_sheet (A 292, A 293, A 294) k sort n).1 (mP S m as (uT A (o_sheet (A 292, A 293, A 294) k sort n).2) F)) : PI x (d + 3) M_X9_sheet [.ref m, .int k, .int sort, .int n] (mP S m as A F) Q := by
  unfold o_sheet at h
  refine PM_of (by decide +kernel) (Nat.le_of_ble_eq_true rfl) ?_
  show V x (d + 3) M_X9_sheet (qi Q) (0, 0) 0 [(0, .ref m), (1, .int k), (2, .int sort), (3, .int n)] [] (mP S m as A F)
  refine V_iln (pc := 0) dX9_sheet_0 rfl rfl ?_
  refine V_cSi0 (pc := 1) (jc_X9_297 dX9_sheet_1 rfl) rfl rfl (Nat.le_of_ble_eq_true rfl) ?_
  refine m_isSheet (fun i hi ei ti ci => ?_) (fun ni => ?_)
  · subst ei
    refine V_eq (pc := 4) (t := 29) dX9_sheet_4 (by decide) (fun h => absurd h (by decide)) (fun _ => ?_)
    refine V_iln (pc := 7) dX9_sheet_7 rfl rfl ?_
    refine V_i2l (pc := 8) dX9_sheet_8 ?_
    refine V_ldc2 (pc := 9) dX9_sheet_9 (KC_X9_300 rfl) ?_
    refine V_lconst (pc := 12) (v := 1) dX9_sheet_12 (by decide) ?_
    refine V_cSi0 (pc := 13) (jc_X9_62 dX9_sheet_13 rfl) rfl rfl (Nat.le_of_ble_eq_true rfl) ?_
    refine m_isIn (l := (-1)) (-1) 1 (by decide) (by decide) (fun a1 a2 => ?_) (fun a0 => ?_)
    · refine V_eq (pc := 16) (t := 29) dX9_sheet_16 (by decide) (fun h => absurd h (by decide)) (fun _ => ?_)
      refine V_iln (pc := 19) dX9_sheet_19 rfl rfl ?_
      refine V_lt (pc := 20) (t := 32) dX9_sheet_20 (by decide) (fun h20 => ?_) (fun h20 => ?_)
      · have s1 : sort.toInt < 0 := by have := (fa_lt sort 0).mp h20; simpa using this
        refine V_iln (pc := 32) dX9_sheet_32 rfl rfl ?_
        refine V_lt (pc := 33) (t := 44) dX9_sheet_33 (by decide) (fun h33 => ?_) (fun h33 => ?_)
        · refine V_aln (pc := 44) dX9_sheet_44 rfl rfl ?_
          refine M_gr (pc := 45) hM 4 292 dX9_sheet_45 (FL_X9_19 rfl) rfl rfl (by decide) ?_
          refine V_iln (pc := 48) dX9_sheet_48 rfl rfl ?_
          refine V_iln (pc := 49) dX9_sheet_49 rfl rfl ?_
          refine M_ias (pc := 50) hM 292 i dX9_sheet_50 (by decide) (by decide) rfl (by show (_ : Nat) < 4; omega) ?_
          refine V_aln (pc := 51) dX9_sheet_51 rfl rfl ?_
          refine M_gr (pc := 52) hM 5 293 dX9_sheet_52 (FL_X9_22 rfl) rfl rfl (by decide) ?_
          refine V_iln (pc := 55) dX9_sheet_55 rfl rfl ?_
          refine V_iln (pc := 56) dX9_sheet_56 rfl rfl ?_
          refine V_ge (pc := 57) (t := 64) dX9_sheet_57 (by decide) (fun h57 => ?_) (fun h57 => ?_)
          · exact absurd h57 (Int32.not_le.mpr h20)
          · refine V_iconst (pc := 60) (v := 0) dX9_sheet_60 (by decide) ?_
            refine V_goto (pc := 61) (t := 65) dX9_sheet_61 (by decide) ?_
            refine M_ias (pc := 65) hM 293 i dX9_sheet_65 (by decide) (by decide) rfl (by show (_ : Nat) < 4; omega) ?_
            refine V_iconst (pc := 66) (v := 0) dX9_sheet_66 (by decide) ?_
            refine V_is (pc := 67) (fun y => [(0, .ref m), (1, .int (nI i)), (2, .int sort), (3, .int n), (4, .int y)]) dX9_sheet_67 (by decide) (fun _ => rfl) (fun y67 ey67 => ?_)
            obtain rfl : y67 = nI 0 := ey67
            rw [if_pos (by omega), if_neg (by omega), ci] at h
            simp only [if_pos s1] at h
            have e : ∀ B : Nat → Nat → Int32, va_up B 294 (clr (B 294) i 0) = B := fun B => by rw [clr_0]; exact vu_self B 294
            rw [← e (va_up _ _ _)]
            refine m_sheet_L hM hi ?_ 24 0 (by omega)
            have e2 : va_up (va_up A 292 (upd (A 292) i sort)) 293 (upd (va_up A 292 (upd (A 292) i sort) 293) i 0) 293 i = 0 := by rw [va_up_self]; exact pk_us
            rw [e2, va_up_ne A _ (show 293 ≠ 292 by decide), va_up_ne _ _ (show 294 ≠ 293 by decide), va_up_ne A _ (show 294 ≠ 292 by decide)]
            exact h
        · exact absurd h20 h33
      · have s1 : 0 ≤ sort.toInt := by have := (fa_le 0 sort).mp (Int32.not_lt.mp h20); simpa using this
        refine V_iln (pc := 23) dX9_sheet_23 rfl rfl ?_
        refine V_bipush (pc := 24) (v := 24) dX9_sheet_24 (by decide) ?_
        refine V_cle (pc := 26) (t := 32) dX9_sheet_26 (by decide) (fun h26 => ?_) (fun h26 => ?_)
        · have s2 : n.toInt ≤ 24 := by have := (fa_le n 24).mp h26; simpa using this
          refine V_iln (pc := 32) dX9_sheet_32 rfl rfl ?_
          refine V_lt (pc := 33) (t := 44) dX9_sheet_33 (by decide) (fun h33 => ?_) (fun h33 => ?_)
          · exact absurd h33 h20
          · refine V_iln (pc := 36) dX9_sheet_36 rfl rfl ?_
            refine V_ge (pc := 37) (t := 44) dX9_sheet_37 (by decide) (fun h37 => ?_) (fun h37 => ?_)
            · have s3 : 0 ≤ n.toInt := by have := (fa_le 0 n).mp h37; simpa using this
              refine V_aln (pc := 44) dX9_sheet_44 rfl rfl ?_
              refine M_gr (pc := 45) hM 4 292 dX9_sheet_45 (FL_X9_19 rfl) rfl rfl (by decide) ?_
              refine V_iln (pc := 48) dX9_sheet_48 rfl rfl ?_
              refine V_iln (pc := 49) dX9_sheet_49 rfl rfl ?_
              refine M_ias (pc := 50) hM 292 i dX9_sheet_50 (by decide) (by decide) rfl (by show (_ : Nat) < 4; omega) ?_
              refine V_aln (pc := 51) dX9_sheet_51 rfl rfl ?_
              refine M_gr (pc := 52) hM 5 293 dX9_sheet_52 (FL_X9_22 rfl) rfl rfl (by decide) ?_
              refine V_iln (pc := 55) dX9_sheet_55 rfl rfl ?_
              refine V_iln (pc := 56) dX9_sheet_56 rfl rfl ?_
              refine V_ge (pc := 57) (t := 64) dX9_sheet_57 (by decide) (fun h57 => ?_) (fun h57 => ?_)
              · refine V_iln (pc := 64) dX9_sheet_64 rfl rfl ?_
                refine M_ias (pc := 65) hM 293 i dX9_sheet_65 (by decide) (by decide) rfl (by show (_ : Nat) < 4; omega) ?_
                refine V_iconst (pc := 66) (v := 0) dX9_sheet_66 (by decide) ?_
                refine V_is (pc := 67) (fun y => [(0, .ref m), (1, .int (nI i)), (2, .int sort), (3, .int n), (4, .int y)]) dX9_sheet_67 (by decide) (fun _ => rfl) (fun y67 ey67 => ?_)
                obtain rfl : y67 = nI 0 := ey67
                rw [if_pos (by omega), if_neg (by omega), ci] at h
                simp only [if_neg (show ¬ sort.toInt < 0 by omega)] at h
                have e : ∀ B : Nat → Nat → Int32, va_up B 294 (clr (B 294) i 0) = B := fun B => by rw [clr_0]; exact vu_self B 294
                rw [← e (va_up _ _ _)]
                refine m_sheet_L hM hi ?_ 24 0 (by omega)
                have e2 : va_up (va_up A 292 (upd (A 292) i sort)) 293 (upd (va_up A 292 (upd (A 292) i sort) 293) i n) 293 i = n := by rw [va_up_self]; exact pk_us
                rw [e2, va_up_ne A _ (show 293 ≠ 292 by decide), va_up_ne _ _ (show 294 ≠ 293 by decide), va_up_ne A _ (show 294 ≠ 292 by decide)]
                exact h
              · exact absurd (Int32.not_lt.mp h20) h57
            · have s3 : n.toInt < 0 := by have := (fa_lt n 0).mp (Int32.not_le.mp h37); simpa using this
              refine V_ldcw (pc := 40) dX9_sheet_40 (KC_X9_302 rfl) ?_
              refine V_iret (pc := 43) dX9_sheet_43 rfl rfl ?_
              rw [if_pos (by omega), if_pos (by omega), uT_self] at h
              exact h
        · have s2 : 24 < n.toInt := by have := (fa_lt 24 n).mp (Int32.not_le.mp h26); simpa using this
          refine V_ldc (pc := 29) dX9_sheet_29 (KC_X9_82 rfl) ?_
          refine V_iret (pc := 31) dX9_sheet_31 rfl rfl ?_
          rw [if_neg (by omega), uT_self] at h
          exact h
    · refine V_eq (pc := 16) (t := 29) dX9_sheet_16 (by decide) (fun _ => ?_) (fun h => absurd h (by decide))
      refine V_ldc (pc := 29) dX9_sheet_29 (KC_X9_82 rfl) ?_
      refine V_iret (pc := 31) dX9_sheet_31 rfl rfl ?_
      rw [if_neg (by omega), uT_self] at h
      exact h
  · refine V_eq (pc := 4) (t := 29) dX9_sheet_4 (by decide) (fun _ => ?_) (fun h => absurd h (by decide))
    refine V_ldc (pc := 29) dX9_sheet_29 (KC_X9_82 rfl) ?_
    refine V_iret (pc := 31) dX9_sheet_31 rfl rfl ?_
    rw [if_neg (by omega), uT_self] at h
    exact h
def o_mark (ts tz tn : Nat → Int32) (k p v : Int32) : Int32 × (Nat → Int32) :=
  if 0 ≤ k.toInt ∧ k.toInt ≤ 3 then (if ts k.toNatClampNeg < 0 then (-1000000011, tn) else if 0 ≤ p.toInt ∧ p.toInt < (tz k.toNatClampNeg).toInt then (if ts k.toNatClampNeg = 0 ∧ v = -1000000005 then (-1000000012, tn) else if ts k.toNatClampNeg = 1 ∧ ¬ v = -1000000005 ∧ ¬ (-99999 ≤ v.toInt ∧ v.toInt ≤ 99999) then (-1000000001, tn) else (1, upd tn (24 * k.toNatClampNeg + p.toNatClampNeg) (if ts k.toNatClampNeg = 0 then (v <<< (16 &&& 31 : Int32)) >>> (16 &&& 31 : Int32) else v))) else (-1000000013, tn)) else (-1000000001, tn)
set_option maxRecDepth 100000 in
set_option maxHeartbeats 4000000 in
theorem M_mark {x : pX} {d : Nat} {S : pS} {m : Nat} {as : Nat → Nat} {A : Nat → Nat → Int32} {F : Nat → Int32} {Q : Int32 → pS → Prop} (hM : MF S m as) {k p v : Int32} (hS : SI (A 292) (A 293)) (h : Q (o_mark (A 292) (A 293) (A 294) k p v).1 (mP S m as (va_up A 294 (o_mark (A 292) (A 293) (A 294) k p v).2) F)) : PI x (d + 3) M_X9_mark [.ref m, .int k, .int p, .int v] (mP S m as A F) Q := by
  unfold o_mark at h
  refine PM_of (by decide +kernel) (Nat.le_of_ble_eq_true rfl) ?_
  show V x (d + 3) M_X9_mark (qi Q) (0, 0) 0 [(0, .ref m), (1, .int k), (2, .int p), (3, .int v)] [] (mP S m as A F)
  refine V_iln (pc := 0) dX9_mark_0 rfl rfl ?_
  refine V_cSi0 (pc := 1) (jc_X9_297 dX9_mark_1 rfl) rfl rfl (Nat.le_of_ble_eq_true rfl) ?_
  refine m_isSheet (fun i hi ei ti ci => ?_) (fun ni => ?_)
  · subst ei
    rw [if_pos (by omega), ci] at h
    obtain ⟨hso, z, hz, ez⟩ := hS i hi
    have tz : (nI z).toInt = z := nI_toInt (by omega)
    refine V_ne (pc := 4) (t := 10) dX9_mark_4 (by decide) (fun _ => ?_) (fun h => absurd h (by decide))
    refine V_aln (pc := 10) dX9_mark_10 rfl rfl ?_
    refine M_gr (pc := 11) hM 4 292 dX9_mark_11 (FL_X9_19 rfl) rfl rfl (by decide) ?_
    refine V_iln (pc := 14) dX9_mark_14 rfl rfl ?_
    refine M_ia (pc := 15) hM 292 i dX9_mark_15 (by decide) (by decide) rfl (by show (_ : Nat) < 4; omega) ?_
    refine V_ge (pc := 16) (t := 23) dX9_mark_16 (by decide) (fun h16 => ?_) (fun h16 => ?_)
    · rw [if_neg (Int32.not_lt.mpr h16)] at h
      refine V_iln (pc := 23) dX9_mark_23 rfl rfl ?_
      refine V_i2l (pc := 24) dX9_mark_24 ?_
      refine V_lconst (pc := 25) (v := 0) dX9_mark_25 (by decide) ?_
      refine V_aln (pc := 26) dX9_mark_26 rfl rfl ?_
      refine M_gr (pc := 27) hM 5 293 dX9_mark_27 (FL_X9_22 rfl) rfl rfl (by decide) ?_
      refine V_iln (pc := 30) dX9_mark_30 rfl rfl ?_
      refine M_ia (pc := 31) hM 293 i dX9_mark_31 (by decide) (by decide) rfl (by show (_ : Nat) < 4; omega) ?_
      refine V_iconst (pc := 32) (v := 1) dX9_mark_32 (by decide) ?_
      refine V_isub (pc := 33) dX9_mark_33 ?_
      refine V_i2l (pc := 34) dX9_mark_34 ?_
      refine V_cSi0 (pc := 35) (jc_X9_62 dX9_mark_35 rfl) rfl rfl (Nat.le_of_ble_eq_true rfl) ?_
      refine m_isIn (l := 0) 0 (z - 1) (by decide) (by rw [i64_toInt, ez, show (1 : Int32) = nI 1 from rfl, pk_sub_toInt (by omega) (by decide)]; rfl) (fun c1 c2 => ?_) (fun c0 => ?_)
      · obtain ⟨q, hq, f1, f2, f3⟩ := idx_of (w := p) (n := z) (by omega) c1 (by omega)
        subst f1
        rw [if_pos ⟨by omega, by rw [ez, tz]; omega⟩, f3] at h
        refine V_ne (pc := 38) (t := 45) dX9_mark_38 (by decide) (fun _ => ?_) (fun h => absurd h (by decide))
        refine V_aln (pc := 45) dX9_mark_45 rfl rfl ?_
        refine M_gr (pc := 46) hM 4 292 dX9_mark_46 (FL_X9_19 rfl) rfl rfl (by decide) ?_
        refine V_iln (pc := 49) dX9_mark_49 rfl rfl ?_
        refine M_ia (pc := 50) hM 292 i dX9_mark_50 (by decide) (by decide) rfl (by show (_ : Nat) < 4; omega) ?_
        refine V_ne (pc := 51) (t := 63) dX9_mark_51 (by decide) (fun h51 => ?_) (fun h51 => ?_)
        · rw [if_neg (fun w => h51 w.1)] at h
          refine V_aln (pc := 63) dX9_mark_63 rfl rfl ?_
          refine M_gr (pc := 64) hM 4 292 dX9_mark_64 (FL_X9_19 rfl) rfl rfl (by decide) ?_
          refine V_iln (pc := 67) dX9_mark_67 rfl rfl ?_
          refine M_ia (pc := 68) hM 292 i dX9_mark_68 (by decide) (by decide) rfl (by show (_ : Nat) < 4; omega) ?_
          refine V_iconst (pc := 69) (v := 1) dX9_mark_69 (by decide) ?_
          refine V_cne (pc := 70) (t := 96) dX9_mark_70 (by decide) (fun h70 => ?_) (fun h70 => ?_)
          · rw [if_neg (fun w => h70 w.1)] at h
            refine V_aln (pc := 96) dX9_mark_96 rfl rfl ?_
            refine M_gr (pc := 97) hM 6 294 dX9_mark_97 (FL_X9_25 rfl) rfl rfl (by decide) ?_
            refine V_bipush (pc := 100) (v := 24) dX9_mark_100 (by decide) ?_
            refine V_iln (pc := 102) dX9_mark_102 rfl rfl ?_
            refine V_imul (pc := 103) dX9_mark_103 ?_
            refine V_iln (pc := 104) dX9_mark_104 rfl rfl ?_
            refine V_iadd (pc := 105) dX9_mark_105 ?_
            refine V_aln (pc := 106) dX9_mark_106 rfl rfl ?_
            refine M_gr (pc := 107) hM 4 292 dX9_mark_107 (FL_X9_19 rfl) rfl rfl (by decide) ?_
            refine V_iln (pc := 110) dX9_mark_110 rfl rfl ?_
            refine M_ia (pc := 111) hM 292 i dX9_mark_111 (by decide) (by decide) rfl (by show (_ : Nat) < 4; omega) ?_
            refine V_ne (pc := 112) (t := 125) dX9_mark_112 (by decide) (fun h112 => ?_) (fun h112 => ?_)
            · rw [if_neg h51] at h
              refine V_iln (pc := 125) dX9_mark_125 rfl rfl ?_
              refine M_ias (pc := 126) hM 294 (24 * i + q) dX9_mark_126 (by decide) (by decide) (by simp only [fa_lit, nI_add, pk_mul]) (by show (_ : Nat) < 96; omega) ?_
              refine V_iconst (pc := 127) (v := 1) dX9_mark_127 (by decide) ?_
              refine V_iret (pc := 128) dX9_mark_128 rfl rfl ?_
              exact h
            · exact absurd h112 h51
          · refine V_iln (pc := 73) dX9_mark_73 rfl rfl ?_
            refine V_ldc (pc := 74) dX9_mark_74 (KC_X9_61 rfl) ?_
            refine V_ceq (pc := 76) (t := 96) dX9_mark_76 (by decide) (fun h76 => ?_) (fun h76 => ?_)
            · rw [if_neg (fun w => w.2.1 h76)] at h
              refine V_aln (pc := 96) dX9_mark_96 rfl rfl ?_
              refine M_gr (pc := 97) hM 6 294 dX9_mark_97 (FL_X9_25 rfl) rfl rfl (by decide) ?_
              refine V_bipush (pc := 100) (v := 24) dX9_mark_100 (by decide) ?_
              refine V_iln (pc := 102) dX9_mark_102 rfl rfl ?_
              refine V_imul (pc := 103) dX9_mark_103 ?_
              refine V_iln (pc := 104) dX9_mark_104 rfl rfl ?_
              refine V_iadd (pc := 105) dX9_mark_105 ?_
              refine V_aln (pc := 106) dX9_mark_106 rfl rfl ?_
              refine M_gr (pc := 107) hM 4 292 dX9_mark_107 (FL_X9_19 rfl) rfl rfl (by decide) ?_
              refine V_iln (pc := 110) dX9_mark_110 rfl rfl ?_
              refine M_ia (pc := 111) hM 292 i dX9_mark_111 (by decide) (by decide) rfl (by show (_ : Nat) < 4; omega) ?_
              refine V_ne (pc := 112) (t := 125) dX9_mark_112 (by decide) (fun h112 => ?_) (fun h112 => ?_)
              · rw [if_neg h51] at h
                refine V_iln (pc := 125) dX9_mark_125 rfl rfl ?_
                refine M_ias (pc := 126) hM 294 (24 * i + q) dX9_mark_126 (by decide) (by decide) (by simp only [fa_lit, nI_add, pk_mul]) (by show (_ : Nat) < 96; omega) ?_
                refine V_iconst (pc := 127) (v := 1) dX9_mark_127 (by decide) ?_
                refine V_iret (pc := 128) dX9_mark_128 rfl rfl ?_
                exact h
              · exact absurd h112 h51
            · refine V_iln (pc := 79) dX9_mark_79 rfl rfl ?_
              refine V_i2l (pc := 80) dX9_mark_80 ?_
              refine V_ldc2 (pc := 81) dX9_mark_81 (KC_X9_305 rfl) ?_
              refine V_ldc2 (pc := 84) dX9_mark_84 (KC_X9_307 rfl) ?_
              refine V_cSi0 (pc := 87) (jc_X9_62 dX9_mark_87 rfl) rfl rfl (Nat.le_of_ble_eq_true rfl) ?_
              refine m_isIn (l := (-99999)) (-99999) 99999 (by decide) (by decide) (fun g1 g2 => ?_) (fun g0 => ?_)
              · rw [if_neg (fun w => w.2.2 ⟨g1, g2⟩)] at h
                refine V_ne (pc := 90) (t := 96) dX9_mark_90 (by decide) (fun _ => ?_) (fun h => absurd h (by decide))
                refine V_aln (pc := 96) dX9_mark_96 rfl rfl ?_
                refine M_gr (pc := 97) hM 6 294 dX9_mark_97 (FL_X9_25 rfl) rfl rfl (by decide) ?_
                refine V_bipush (pc := 100) (v := 24) dX9_mark_100 (by decide) ?_
                refine V_iln (pc := 102) dX9_mark_102 rfl rfl ?_
                refine V_imul (pc := 103) dX9_mark_103 ?_
                refine V_iln (pc := 104) dX9_mark_104 rfl rfl ?_
                refine V_iadd (pc := 105) dX9_mark_105 ?_
                refine V_aln (pc := 106) dX9_mark_106 rfl rfl ?_
                refine M_gr (pc := 107) hM 4 292 dX9_mark_107 (FL_X9_19 rfl) rfl rfl (by decide) ?_
                refine V_iln (pc := 110) dX9_mark_110 rfl rfl ?_
                refine M_ia (pc := 111) hM 292 i dX9_mark_111 (by decide) (by decide) rfl (by show (_ : Nat) < 4; omega) ?_
                refine V_ne (pc := 112) (t := 125) dX9_mark_112 (by decide) (fun h112 => ?_) (fun h112 => ?_)
                · rw [if_neg h51] at h
                  refine V_iln (pc := 125) dX9_mark_125 rfl rfl ?_
                  refine M_ias (pc := 126) hM 294 (24 * i + q) dX9_mark_126 (by decide) (by decide) (by simp only [fa_lit, nI_add, pk_mul]) (by show (_ : Nat) < 96; omega) ?_
                  refine V_iconst (pc := 127) (v := 1) dX9_mark_127 (by decide) ?_
                  refine V_iret (pc := 128) dX9_mark_128 rfl rfl ?_
                  exact h
                · exact absurd h112 h51
              · rw [if_pos ⟨h70, h76, g0⟩, vu_self] at h
                refine V_ne (pc := 90) (t := 96) dX9_mark_90 (by decide) (fun h => absurd h (by decide)) (fun _ => ?_)
                refine V_ldc (pc := 93) dX9_mark_93 (KC_X9_82 rfl) ?_
                refine V_iret (pc := 95) dX9_mark_95 rfl rfl ?_
                exact h
        · have hz0 := h51
          refine V_iln (pc := 54) dX9_mark_54 rfl rfl ?_
          refine V_ldc (pc := 55) dX9_mark_55 (KC_X9_61 rfl) ?_
          refine V_cne (pc := 57) (t := 63) dX9_mark_57 (by decide) (fun h57 => ?_) (fun h57 => ?_)
          · rw [if_neg (fun w => h57 w.2)] at h
            refine V_aln (pc := 63) dX9_mark_63 rfl rfl ?_
            refine M_gr (pc := 64) hM 4 292 dX9_mark_64 (FL_X9_19 rfl) rfl rfl (by decide) ?_
            refine V_iln (pc := 67) dX9_mark_67 rfl rfl ?_
            refine M_ia (pc := 68) hM 292 i dX9_mark_68 (by decide) (by decide) rfl (by show (_ : Nat) < 4; omega) ?_
            refine V_iconst (pc := 69) (v := 1) dX9_mark_69 (by decide) ?_
            refine V_cne (pc := 70) (t := 96) dX9_mark_70 (by decide) (fun h70 => ?_) (fun h70 => ?_)
            · rw [if_neg (fun w => h70 w.1)] at h
              refine V_aln (pc := 96) dX9_mark_96 rfl rfl ?_
              refine M_gr (pc := 97) hM 6 294 dX9_mark_97 (FL_X9_25 rfl) rfl rfl (by decide) ?_
              refine V_bipush (pc := 100) (v := 24) dX9_mark_100 (by decide) ?_
              refine V_iln (pc := 102) dX9_mark_102 rfl rfl ?_
              refine V_imul (pc := 103) dX9_mark_103 ?_
              refine V_iln (pc := 104) dX9_mark_104 rfl rfl ?_
              refine V_iadd (pc := 105) dX9_mark_105 ?_
              refine V_aln (pc := 106) dX9_mark_106 rfl rfl ?_
              refine M_gr (pc := 107) hM 4 292 dX9_mark_107 (FL_X9_19 rfl) rfl rfl (by decide) ?_
              refine V_iln (pc := 110) dX9_mark_110 rfl rfl ?_
              refine M_ia (pc := 111) hM 292 i dX9_mark_111 (by decide) (by decide) rfl (by show (_ : Nat) < 4; omega) ?_
              refine V_ne (pc := 112) (t := 125) dX9_mark_112 (by decide) (fun h112 => ?_) (fun h112 => ?_)
              · exact absurd h51 h112
              · rw [if_pos h51] at h
                refine V_iln (pc := 115) dX9_mark_115 rfl rfl ?_
                refine V_bipush (pc := 116) (v := 16) dX9_mark_116 (by decide) ?_
                refine V_ishl (pc := 118) dX9_mark_118 ?_
                refine V_bipush (pc := 119) (v := 16) dX9_mark_119 (by decide) ?_
                refine V_ishr (pc := 121) dX9_mark_121 ?_
                refine V_goto (pc := 122) (t := 126) dX9_mark_122 (by decide) ?_
                refine M_ias (pc := 126) hM 294 (24 * i + q) dX9_mark_126 (by decide) (by decide) (by simp only [fa_lit, nI_add, pk_mul]) (by show (_ : Nat) < 96; omega) ?_
                refine V_iconst (pc := 127) (v := 1) dX9_mark_127 (by decide) ?_
                refine V_iret (pc := 128) dX9_mark_128 rfl rfl ?_
                exact h
            · exact absurd (h51.symm.trans h70) (by decide)
          · rw [if_pos ⟨h51, h57⟩, vu_self] at h
            refine V_ldc (pc := 60) dX9_mark_60 (KC_X9_119 rfl) ?_
            refine V_iret (pc := 62) dX9_mark_62 rfl rfl ?_
            exact h
      · rw [if_neg (by rw [ez, tz]; omega)] at h
        refine V_ne (pc := 38) (t := 45) dX9_mark_38 (by decide) (fun h => absurd h (by decide)) (fun _ => ?_)
        refine V_ldcw (pc := 41) dX9_mark_41 (KC_X9_304 rfl) ?_
        refine V_iret (pc := 44) dX9_mark_44 rfl rfl ?_
        rw [vu_self] at h
        exact h
    · rw [if_pos (Int32.not_le.mp h16), vu_self] at h
      refine V_ldcw (pc := 19) dX9_mark_19 (KC_X9_303 rfl) ?_
      refine V_iret (pc := 22) dX9_mark_22 rfl rfl ?_
      exact h
  · rw [if_neg (by omega), vu_self] at h
    refine V_ne (pc := 4) (t := 10) dX9_mark_4 (by decide) (fun h => absurd h (by decide)) (fun _ => ?_)
    refine V_ldc (pc := 7) dX9_mark_7 (KC_X9_82 rfl) ?_
    refine V_iret (pc := 9) dX9_mark_9 rfl rfl ?_
    exact h
/-- grains poured from a sheet's row, of the first k weights: the row s, how many came otherwise -/
def pr1 (v g : Int32) : Int32 := if v = -1000000005 then g else hld v 999
def fpour (σ tn : Nat → Int32) (i : Nat) : Nat → (Nat → Int32) × Nat
  | 0 => (σ, 0)
  | k + 1 => (upd (fpour σ tn i k).1 (14 + 4 * k + 2) (pr1 (tn (24 * i + k)) ((fpour σ tn i k).1 (14 + 4 * k + 2))), (fpour σ tn i k).2 + (if pr1 (tn (24 * i + k)) ((fpour σ tn i k).1 (14 + 4 * k + 2)) = (fpour σ tn i k).1 (14 + 4 * k + 2) then 0 else 1))
theorem fpour_mk (σ tn : Nat → Int32) (i : Nat) : ∀ k, k ≤ 10 → mk σ (fpour σ tn i k).1
  | 0, _ => mk.rf
  | k + 1, hk => (fpour_mk σ tn i k (by omega)).up (by omega) _
theorem fpour_le (σ tn : Nat → Int32) (i : Nat) : ∀ k, (fpour σ tn i k).2 ≤ k
  | 0 => Nat.le_refl _
  | k + 1 => by have := fpour_le σ tn i k; unfold fpour; dsimp only; split <;> omega
def o_pour (ts tz tn σ : Nat → Int32) (n : Nat) (k : Int32) : Int32 × (Nat → Int32) :=
  if 0 ≤ k.toInt ∧ k.toInt ≤ 3 then (if ts k.toNatClampNeg < 0 then (-1000000011, σ) else (nI (fpour σ tn k.toNatClampNeg (min (tz k.toNatClampNeg).toNatClampNeg n)).2, (fpour σ tn k.toNatClampNeg (min (tz k.toNatClampNeg).toNatClampNeg n)).1)) else (-1000000001, σ)
set_option maxRecDepth 100000 in
set_option maxHeartbeats 4000000 in
theorem m_pour_L {x : pX} {d : Nat} {S : pS} {m : Nat} {as : Nat → Nat} {F : Nat → Int32} {b : Nat × Nat} {Q : Int32 → pS → Prop} (hM : MF S m as) {A0 : Nat → Nat → Int32} {σ tn : Nat → Int32} {n nt np i z : Nat} (hi : i < 4) (hz : z ≤ 24) (ez : A0 293 i = nI z) (etn : A0 294 = tn) (hI : MI σ n nt np) (h : Q (nI (fpour σ tn i (min z n)).2) (mP S m as (uA A0 (fpour σ tn i (min z n)).1) F)) : ∀ (c k : Nat), k + c = min z n → V x (d + 3) M_X9_pour (qi Q) b 27 [(0, .ref m), (1, .int (nI i)), (2, .int (nI ((fpour σ tn i k).2))), (3, .int (nI k))] [] (mP S m as (uA A0 (fpour σ tn i k).1) F) := by
  intro c
  induction c with
  | zero =>
    intro k hk 
    have hn10 := hI.1.2
    have e293 : uA A0 (fpour σ tn i k).1 293 i = nI z := by rw [uA_ne _ _ (by decide)]; exact ez
    have e294 : uA A0 (fpour σ tn i k).1 294 = tn := by rw [uA_ne _ _ (by decide)]; exact etn
    have e0 : uA A0 (fpour σ tn i k).1 288 0 = nI n := by rw [uA_at]; exact (hI.same (fpour_mk σ tn i k (by omega))).1.1
    refine V_iln (pc := 27) dX9_pour_27 rfl rfl ?_
    refine V_aln (pc := 28) dX9_pour_28 rfl rfl ?_
    refine M_gr (pc := 29) hM 5 293 dX9_pour_29 (FL_X9_22 rfl) rfl rfl (by decide) ?_
    refine V_iln (pc := 32) dX9_pour_32 rfl rfl ?_
    refine M_ia (pc := 33) hM 293 i dX9_pour_33 (by decide) (by decide) rfl (by show (_ : Nat) < 4; omega) ?_
    refine V_cge (pc := 34) (t := 119) dX9_pour_34 (by decide) (fun h34 => ?_) (fun h34 => ?_)
    · refine V_iln (pc := 119) dX9_pour_119 rfl rfl ?_
      refine V_iret (pc := 120) dX9_pour_120 rfl rfl ?_
      obtain rfl : k = min z n := by omega
      exact h
    · have hk1 : k < z := by
        rcases Nat.lt_or_ge k z with q | q
        · exact q
        · exact absurd (by rw [e293]; exact nI_le q (by omega)) h34
      refine V_iln (pc := 37) dX9_pour_37 rfl rfl ?_
      refine V_aln (pc := 38) dX9_pour_38 rfl rfl ?_
      refine M_gr (pc := 39) hM 0 288 dX9_pour_39 (FL_X9_7 rfl) rfl rfl (by decide) ?_
      refine V_iconst (pc := 42) (v := 0) dX9_pour_42 (by decide) ?_
      refine M_ia (pc := 43) hM 288 0 dX9_pour_43 (by decide) (by decide) (by simp only [fa_lit, nI_add, pk_mul]) (by show (_ : Nat) < 3154; omega) ?_
      refine V_cge (pc := 44) (t := 119) dX9_pour_44 (by decide) (fun h44 => ?_) (fun h44 => ?_)
      · refine V_iln (pc := 119) dX9_pour_119 rfl rfl ?_
        refine V_iret (pc := 120) dX9_pour_120 rfl rfl ?_
        obtain rfl : k = min z n := by omega
        exact h
      · exact absurd (by rw [e0]; exact nI_le (by omega) (by omega)) h44
  | succ c ih =>
    intro k hk 
    have hn10 := hI.1.2
    have e293 : uA A0 (fpour σ tn i k).1 293 i = nI z := by rw [uA_ne _ _ (by decide)]; exact ez
    have e294 : uA A0 (fpour σ tn i k).1 294 = tn := by rw [uA_ne _ _ (by decide)]; exact etn
    have e0 : uA A0 (fpour σ tn i k).1 288 0 = nI n := by rw [uA_at]; exact (hI.same (fpour_mk σ tn i k (by omega))).1.1
    refine V_iln (pc := 27) dX9_pour_27 rfl rfl ?_
    refine V_aln (pc := 28) dX9_pour_28 rfl rfl ?_
    refine M_gr (pc := 29) hM 5 293 dX9_pour_29 (FL_X9_22 rfl) rfl rfl (by decide) ?_
    refine V_iln (pc := 32) dX9_pour_32 rfl rfl ?_
    refine M_ia (pc := 33) hM 293 i dX9_pour_33 (by decide) (by decide) rfl (by show (_ : Nat) < 4; omega) ?_
    refine V_cge (pc := 34) (t := 119) dX9_pour_34 (by decide) (fun h34 => ?_) (fun h34 => ?_)
    · exact absurd h34 (by rw [e293]; exact nI_ge (by omega) (by omega))
    · refine V_iln (pc := 37) dX9_pour_37 rfl rfl ?_
      refine V_aln (pc := 38) dX9_pour_38 rfl rfl ?_
      refine M_gr (pc := 39) hM 0 288 dX9_pour_39 (FL_X9_7 rfl) rfl rfl (by decide) ?_
      refine V_iconst (pc := 42) (v := 0) dX9_pour_42 (by decide) ?_
      refine M_ia (pc := 43) hM 288 0 dX9_pour_43 (by decide) (by decide) (by simp only [fa_lit, nI_add, pk_mul]) (by show (_ : Nat) < 3154; omega) ?_
      refine V_cge (pc := 44) (t := 119) dX9_pour_44 (by decide) (fun h44 => ?_) (fun h44 => ?_)
      · exact absurd h44 (by rw [e0]; exact nI_ge (by omega) (by omega))
      · refine V_aln (pc := 47) dX9_pour_47 rfl rfl ?_
        refine M_gr (pc := 48) hM 6 294 dX9_pour_48 (FL_X9_25 rfl) rfl rfl (by decide) ?_
        refine V_bipush (pc := 51) (v := 24) dX9_pour_51 (by decide) ?_
        refine V_iln (pc := 53) dX9_pour_53 rfl rfl ?_
        refine V_imul (pc := 54) dX9_pour_54 ?_
        refine V_iln (pc := 55) dX9_pour_55 rfl rfl ?_
        refine V_iadd (pc := 56) dX9_pour_56 ?_
        refine M_ia (pc := 57) hM 294 (24 * i + k) dX9_pour_57 (by decide) (by decide) (by simp only [fa_lit, nI_add, pk_mul]) (by show (_ : Nat) < 96; omega) ?_
        refine V_is (pc := 58) (fun y => [(0, .ref m), (1, .int (nI i)), (2, .int (nI ((fpour σ tn i k).2))), (3, .int (nI k)), (4, .int y)]) dX9_pour_58 (by decide) (fun _ => rfl) (fun y58 ey58 => ?_)
        refine V_aln (pc := 60) dX9_pour_60 rfl rfl ?_
        refine V_iln (pc := 61) dX9_pour_61 rfl rfl ?_
        refine V_iconst (pc := 62) (v := 2) dX9_pour_62 (by decide) ?_
        refine V_cVi0 (pc := 63) (jc_X9_67 dX9_pour_63 rfl) rfl rfl (Nat.le_of_ble_eq_true rfl) (mF_k hM) ?_
        refine m_of hM (i := k) (j := 2) (by omega) ?_
        refine V_is (pc := 66) (fun y => [(0, .ref m), (1, .int (nI i)), (2, .int (nI ((fpour σ tn i k).2))), (3, .int (nI k)), (4, .int y58), (5, .int y)]) dX9_pour_66 (by decide) (fun _ => rfl) (fun y66 ey66 => ?_)
        refine V_il (pc := 68) dX9_pour_68 rfl ?_
        refine V_ldc (pc := 70) dX9_pour_70 (KC_X9_61 rfl) ?_
        refine V_cne (pc := 72) (t := 80) dX9_pour_72 (by decide) (fun h72 => ?_) (fun h72 => ?_)
        · refine V_il (pc := 80) dX9_pour_80 rfl ?_
          refine V_sipush (pc := 82) (v := 999) dX9_pour_82 (by decide) ?_
          refine V_cSi0 (pc := 85) (jc_X9_95 dX9_pour_85 rfl) rfl rfl (Nat.le_of_ble_eq_true rfl) ?_
          refine m_within ?_
          refine V_is (pc := 88) (fun y => [(0, .ref m), (1, .int (nI i)), (2, .int (nI ((fpour σ tn i k).2))), (3, .int (nI k)), (4, .int y58), (5, .int y66), (6, .int y)]) dX9_pour_88 (by decide) (fun _ => rfl) (fun y88 ey88 => ?_)
          have e5 : y66 = (fpour σ tn i k).1 (14 + 4 * k + 2) := by rw [ey66, uA_at]
          have e4 : y58 = tn (24 * i + k) := by rw [ey58, e294]
          have e6 : y88 = pr1 (tn (24 * i + k)) ((fpour σ tn i k).1 (14 + 4 * k + 2)) := by unfold pr1; rw [ey88]; first | (rw [if_pos (by rw [← e4]; exact h72)]; exact e5) | rw [if_neg (by rw [← e4]; exact h72), ← e4]
          refine V_aln (pc := 90) dX9_pour_90 rfl rfl ?_
          refine V_iln (pc := 91) dX9_pour_91 rfl rfl ?_
          refine V_iconst (pc := 92) (v := 2) dX9_pour_92 (by decide) ?_
          refine V_il (pc := 93) dX9_pour_93 rfl ?_
          refine V_cVv0 (pc := 95) (jc_X9_74 dX9_pour_95 rfl) rfl rfl (Nat.le_of_ble_eq_true rfl) (mF_k hM) ?_
          refine m_sets hM (i := k) (j := 2) (by omega) ?_
          refine V_iln (pc := 98) dX9_pour_98 rfl rfl ?_
          refine V_il (pc := 99) dX9_pour_99 rfl ?_
          refine V_il (pc := 101) dX9_pour_101 rfl ?_
          refine V_cne (pc := 103) (t := 110) dX9_pour_103 (by decide) (fun h103 => ?_) (fun h103 => ?_)
          · have hB : (fpour σ tn i (k + 1)).2 = (fpour σ tn i k).2 + 1 := by show _ + (if _ then 0 else 1) = _; rw [if_neg (by rw [← e6, ← e5]; exact h103)]
            refine V_iconst (pc := 110) (v := 1) dX9_pour_110 (by decide) ?_
            refine V_iadd (pc := 111) dX9_pour_111 ?_
            refine V_isn (pc := 112) (fun y => [(0, .ref m), (1, .int (nI i)), (2, .int y), (3, .int (nI k)), (4, .int y58), (5, .int y66), (6, .int y88)]) dX9_pour_112 rfl (by decide) (fun _ => rfl) (fun y112 ey112 => ?_)
            obtain rfl : y112 = nI (fpour σ tn i (k + 1)).2 := by rw [ey112]; rw [hB]; exact nI_add _ _
            refine V_inc (pc := 113) (fun y => [(0, .ref m), (1, .int (nI i)), (2, .int (nI (fpour σ tn i (k + 1)).2)), (3, .int y), (4, .int y58), (5, .int y66), (6, .int y88)]) (w := 1) dX9_pour_113 (by decide) (by decide) rfl (fun _ => rfl) (fun y113 ey113 => ?_)
            obtain rfl : y113 = nI (k + 1) := by rw [ey113]; exact nI_1 _
            refine V_goto (pc := 116) (t := 27) dX9_pour_116 (by decide) ?_
            refine V_lp [0, 1, 2, 3] (ls' := [(0, .ref m), (1, .int (nI i)), (2, .int (nI (fpour σ tn i (k + 1)).2)), (3, .int (nI (k + 1)))]) rfl ?_
            rw [uA_at, uA_uA, e6]
            exact ih (k + 1) (by omega)
          · have hB : (fpour σ tn i (k + 1)).2 = (fpour σ tn i k).2 + 0 := by show _ + (if _ then 0 else 1) = _; rw [if_pos (by rw [← e6, ← e5]; exact h103)]
            refine V_iconst (pc := 106) (v := 0) dX9_pour_106 (by decide) ?_
            refine V_goto (pc := 107) (t := 111) dX9_pour_107 (by decide) ?_
            refine V_iadd (pc := 111) dX9_pour_111 ?_
            refine V_isn (pc := 112) (fun y => [(0, .ref m), (1, .int (nI i)), (2, .int y), (3, .int (nI k)), (4, .int y58), (5, .int y66), (6, .int y88)]) dX9_pour_112 rfl (by decide) (fun _ => rfl) (fun y112 ey112 => ?_)
            obtain rfl : y112 = nI (fpour σ tn i (k + 1)).2 := by rw [ey112]; rw [hB]; exact nI_add _ _
            refine V_inc (pc := 113) (fun y => [(0, .ref m), (1, .int (nI i)), (2, .int (nI (fpour σ tn i (k + 1)).2)), (3, .int y), (4, .int y58), (5, .int y66), (6, .int y88)]) (w := 1) dX9_pour_113 (by decide) (by decide) rfl (fun _ => rfl) (fun y113 ey113 => ?_)
            obtain rfl : y113 = nI (k + 1) := by rw [ey113]; exact nI_1 _
            refine V_goto (pc := 116) (t := 27) dX9_pour_116 (by decide) ?_
            refine V_lp [0, 1, 2, 3] (ls' := [(0, .ref m), (1, .int (nI i)), (2, .int (nI (fpour σ tn i (k + 1)).2)), (3, .int (nI (k + 1)))]) rfl ?_
            rw [uA_at, uA_uA, e6]
            exact ih (k + 1) (by omega)
        · refine V_il (pc := 75) dX9_pour_75 rfl ?_
          refine V_goto (pc := 77) (t := 88) dX9_pour_77 (by decide) ?_
          refine V_is (pc := 88) (fun y => [(0, .ref m), (1, .int (nI i)), (2, .int (nI ((fpour σ tn i k).2))), (3, .int (nI k)), (4, .int y58), (5, .int y66), (6, .int y)]) dX9_pour_88 (by decide) (fun _ => rfl) (fun y88 ey88 => ?_)
          have e5 : y66 = (fpour σ tn i k).1 (14 + 4 * k + 2) := by rw [ey66, uA_at]
          have e4 : y58 = tn (24 * i + k) := by rw [ey58, e294]
          have e6 : y88 = pr1 (tn (24 * i + k)) ((fpour σ tn i k).1 (14 + 4 * k + 2)) := by unfold pr1; rw [ey88]; first | (rw [if_pos (by rw [← e4]; exact h72)]; exact e5) | rw [if_neg (by rw [← e4]; exact h72), ← e4]
          refine V_aln (pc := 90) dX9_pour_90 rfl rfl ?_
          refine V_iln (pc := 91) dX9_pour_91 rfl rfl ?_
          refine V_iconst (pc := 92) (v := 2) dX9_pour_92 (by decide) ?_
          refine V_il (pc := 93) dX9_pour_93 rfl ?_
          refine V_cVv0 (pc := 95) (jc_X9_74 dX9_pour_95 rfl) rfl rfl (Nat.le_of_ble_eq_true rfl) (mF_k hM) ?_
          refine m_sets hM (i := k) (j := 2) (by omega) ?_
          refine V_iln (pc := 98) dX9_pour_98 rfl rfl ?_
          refine V_il (pc := 99) dX9_pour_99 rfl ?_
          refine V_il (pc := 101) dX9_pour_101 rfl ?_
          refine V_cne (pc := 103) (t := 110) dX9_pour_103 (by decide) (fun h103 => ?_) (fun h103 => ?_)
          · have hB : (fpour σ tn i (k + 1)).2 = (fpour σ tn i k).2 + 1 := by show _ + (if _ then 0 else 1) = _; rw [if_neg (by rw [← e6, ← e5]; exact h103)]
            refine V_iconst (pc := 110) (v := 1) dX9_pour_110 (by decide) ?_
            refine V_iadd (pc := 111) dX9_pour_111 ?_
            refine V_isn (pc := 112) (fun y => [(0, .ref m), (1, .int (nI i)), (2, .int y), (3, .int (nI k)), (4, .int y58), (5, .int y66), (6, .int y88)]) dX9_pour_112 rfl (by decide) (fun _ => rfl) (fun y112 ey112 => ?_)
            obtain rfl : y112 = nI (fpour σ tn i (k + 1)).2 := by rw [ey112]; rw [hB]; exact nI_add _ _
            refine V_inc (pc := 113) (fun y => [(0, .ref m), (1, .int (nI i)), (2, .int (nI (fpour σ tn i (k + 1)).2)), (3, .int y), (4, .int y58), (5, .int y66), (6, .int y88)]) (w := 1) dX9_pour_113 (by decide) (by decide) rfl (fun _ => rfl) (fun y113 ey113 => ?_)
            obtain rfl : y113 = nI (k + 1) := by rw [ey113]; exact nI_1 _
            refine V_goto (pc := 116) (t := 27) dX9_pour_116 (by decide) ?_
            refine V_lp [0, 1, 2, 3] (ls' := [(0, .ref m), (1, .int (nI i)), (2, .int (nI (fpour σ tn i (k + 1)).2)), (3, .int (nI (k + 1)))]) rfl ?_
            rw [uA_at, uA_uA, e6]
            exact ih (k + 1) (by omega)
          · have hB : (fpour σ tn i (k + 1)).2 = (fpour σ tn i k).2 + 0 := by show _ + (if _ then 0 else 1) = _; rw [if_pos (by rw [← e6, ← e5]; exact h103)]
            refine V_iconst (pc := 106) (v := 0) dX9_pour_106 (by decide) ?_
            refine V_goto (pc := 107) (t := 111) dX9_pour_107 (by decide) ?_
            refine V_iadd (pc := 111) dX9_pour_111 ?_
            refine V_isn (pc := 112) (fun y => [(0, .ref m), (1, .int (nI i)), (2, .int y), (3, .int (nI k)), (4, .int y58), (5, .int y66), (6, .int y88)]) dX9_pour_112 rfl (by decide) (fun _ => rfl) (fun y112 ey112 => ?_)
            obtain rfl : y112 = nI (fpour σ tn i (k + 1)).2 := by rw [ey112]; rw [hB]; exact nI_add _ _
            refine V_inc (pc := 113) (fun y => [(0, .ref m), (1, .int (nI i)), (2, .int (nI (fpour σ tn i (k + 1)).2)), (3, .int y), (4, .int y58), (5, .int y66), (6, .int y88)]) (w := 1) dX9_pour_113 (by decide) (by decide) rfl (fun _ => rfl) (fun y113 ey113 => ?_)
            obtain rfl : y113 = nI (k + 1) := by rw [ey113]; exact nI_1 _
            refine V_goto (pc := 116) (t := 27) dX9_pour_116 (by decide) ?_
            refine V_lp [0, 1, 2, 3] (ls' := [(0, .ref m), (1, .int (nI i)), (2, .int (nI (fpour σ tn i (k + 1)).2)), (3, .int (nI (k + 1)))]) rfl ?_
            rw [uA_at, uA_uA, e6]
            exact ih (k + 1) (by omega)
set_option maxRecDepth 100000 in
set_option maxHeartbeats 4000000 in
theorem M_pour {x : pX} {d : Nat} {S : pS} {m : Nat} {as : Nat → Nat} {A : Nat → Nat → Int32} {F : Nat → Int32} {Q : Int32 → pS → Prop} (hM : MF S m as) {n nt np : Nat} {k : Int32} (hS : SI (A 292) (A 293)) (hI : MI (A 288) n nt np) (h : Q (o_pour (A 292) (A 293) (A 294) (A 288) n k).1 (mP S m as (uA A (o_pour (A 292) (A 293) (A 294) (A 288) n k).2) F)) : PI x (d + 3) M_X9_pour [.ref m, .int k] (mP S m as A F) Q := by
  unfold o_pour at h
  refine PM_of (by decide +kernel) (Nat.le_of_ble_eq_true rfl) ?_
  show V x (d + 3) M_X9_pour (qi Q) (0, 0) 0 [(0, .ref m), (1, .int k)] [] (mP S m as A F)
  refine V_iln (pc := 0) dX9_pour_0 rfl rfl ?_
  refine V_cSi0 (pc := 1) (jc_X9_297 dX9_pour_1 rfl) rfl rfl (Nat.le_of_ble_eq_true rfl) ?_
  refine m_isSheet (fun i hi ei ti ci => ?_) (fun ni => ?_)
  · subst ei
    rw [if_pos (by omega), ci] at h
    obtain ⟨hso, z, hz, ez⟩ := hS i hi
    have tz : (nI z).toInt = z := nI_toInt (by omega)
    refine V_ne (pc := 4) (t := 10) dX9_pour_4 (by decide) (fun _ => ?_) (fun h => absurd h (by decide))
    refine V_aln (pc := 10) dX9_pour_10 rfl rfl ?_
    refine M_gr (pc := 11) hM 4 292 dX9_pour_11 (FL_X9_19 rfl) rfl rfl (by decide) ?_
    refine V_iln (pc := 14) dX9_pour_14 rfl rfl ?_
    refine M_ia (pc := 15) hM 292 i dX9_pour_15 (by decide) (by decide) rfl (by show (_ : Nat) < 4; omega) ?_
    refine V_ge (pc := 16) (t := 23) dX9_pour_16 (by decide) (fun h16 => ?_) (fun h16 => ?_)
    · rw [if_neg (Int32.not_lt.mpr h16), ez, nI_clamp (by omega)] at h
      refine V_iconst (pc := 23) (v := 0) dX9_pour_23 (by decide) ?_
      refine V_isn (pc := 24) (fun y => [(0, .ref m), (1, .int (nI i)), (2, .int y)]) dX9_pour_24 rfl (by decide) (fun _ => rfl) (fun y24 ey24 => ?_)
      obtain rfl : y24 = nI 0 := ey24
      refine V_iconst (pc := 25) (v := 0) dX9_pour_25 (by decide) ?_
      refine V_isn (pc := 26) (fun y => [(0, .ref m), (1, .int (nI i)), (2, .int (nI 0)), (3, .int y)]) dX9_pour_26 rfl (by decide) (fun _ => rfl) (fun y26 ey26 => ?_)
      obtain rfl : y26 = nI 0 := ey26
      have q := m_pour_L (x := x) (d := d) (b := (0, 0)) (A0 := A) (σ := A 288) hM hi hz ez rfl hI h (min z n) 0 (by omega)
      rw [show (fpour (A 288) (A 294) i 0).1 = A 288 from rfl, uA_self] at q
      exact q
    · rw [if_pos (Int32.not_le.mp h16), uA_self] at h
      refine V_ldcw (pc := 19) dX9_pour_19 (KC_X9_303 rfl) ?_
      refine V_iret (pc := 22) dX9_pour_22 rfl rfl ?_
      exact h
  · rw [if_neg (by omega)] at h
    refine V_ne (pc := 4) (t := 10) dX9_pour_4 (by decide) (fun h => absurd h (by decide)) (fun _ => ?_)
    refine V_ldc (pc := 7) dX9_pour_7 (KC_X9_82 rfl) ?_
    refine V_iret (pc := 9) dX9_pour_9 rfl rfl ?_
    rw [uA_self] at h
    exact h
/-- the first place whose number isn't what is weighed -/
noncomputable def fread (σ tn : Nat → Int32) (nt i w : Nat) : Nat → Nat → Option Nat
  | 0, _ => none
  | f + 1, k => if ¬ tn (24 * i + k) = -1000000005 ∧ ¬ tn (24 * i + k) = (bh σ nt w k).1 then some k else fread σ tn nt i w f (k + 1)
noncomputable def o_reads (ts tz tn σ : Nat → Int32) (n nt : Nat) (k w : Int32) : Int32 :=
  if 0 ≤ k.toInt ∧ k.toInt ≤ 3 ∧ 0 ≤ w.toInt ∧ w.toInt < n then (if ts k.toNatClampNeg < 0 then -1000000011 else orN (fread σ tn nt k.toNatClampNeg w.toNatClampNeg (tz k.toNatClampNeg).toNatClampNeg 0)) else -1000000001
set_option maxRecDepth 100000 in
set_option maxHeartbeats 4000000 in
theorem m_reads_L {x : pX} {d : Nat} {S : pS} {m : Nat} {as : Nat → Nat} {F : Nat → Int32} {b : Nat × Nat} {Q : Int32 → pS → Prop} (hM : MF S m as) {A0 : Nat → Nat → Int32} {n nt np i w z : Nat} {r : Option Nat} (hi : i < 4) (hw : w < 10) (hz : z ≤ 24) (ez : A0 293 i = nI z) (hI : MI (A0 288) n nt np) (h : ∀ A2, sc A0 A2 → Q (orN r) (mP S m as A2 F)) : ∀ (c k : Nat), k + c = z → ∀ (A : Nat → Nat → Int32), sc A0 A → fread (A0 288) (A0 294) nt i w c k = r → V x (d + 5) M_X9_reads (qi Q) b 33 [(0, .ref m), (1, .int (nI i)), (2, .int (nI w)), (3, .int (nI k))] [] (mP S m as A F) := by
  intro c
  induction c with
  | zero =>
    intro k hk A hA hr
    refine V_iln (pc := 33) dX9_reads_33 rfl rfl ?_
    refine V_aln (pc := 34) dX9_reads_34 rfl rfl ?_
    refine M_gr (pc := 35) hM 5 293 dX9_reads_35 (FL_X9_22 rfl) rfl rfl (by decide) ?_
    refine V_iln (pc := 38) dX9_reads_38 rfl rfl ?_
    refine M_ia (pc := 39) hM 293 i dX9_reads_39 (by decide) (by decide) rfl (by show (_ : Nat) < 4; omega) ?_
    refine V_cge (pc := 40) (t := 82) dX9_reads_40 (by decide) (fun h40 => ?_) (fun h40 => ?_)
    · refine V_ldc (pc := 82) dX9_reads_82 (KC_X9_61 rfl) ?_
      refine V_iret (pc := 84) dX9_reads_84 rfl rfl ?_
      obtain rfl : none = r := hr
      exact h A hA
    · exact absurd (by rw [hA 293 (by decide) (by decide), ez]; exact nI_le (by omega) (by omega)) h40
  | succ c ih =>
    intro k hk A hA hr
    refine V_iln (pc := 33) dX9_reads_33 rfl rfl ?_
    refine V_aln (pc := 34) dX9_reads_34 rfl rfl ?_
    refine M_gr (pc := 35) hM 5 293 dX9_reads_35 (FL_X9_22 rfl) rfl rfl (by decide) ?_
    refine V_iln (pc := 38) dX9_reads_38 rfl rfl ?_
    refine M_ia (pc := 39) hM 293 i dX9_reads_39 (by decide) (by decide) rfl (by show (_ : Nat) < 4; omega) ?_
    refine V_cge (pc := 40) (t := 82) dX9_reads_40 (by decide) (fun h40 => ?_) (fun h40 => ?_)
    · exact absurd h40 (by rw [hA 293 (by decide) (by decide), ez]; exact nI_ge (by omega) (by omega))
    · refine V_aln (pc := 43) dX9_reads_43 rfl rfl ?_
      refine M_gr (pc := 44) hM 6 294 dX9_reads_44 (FL_X9_25 rfl) rfl rfl (by decide) ?_
      refine V_bipush (pc := 47) (v := 24) dX9_reads_47 (by decide) ?_
      refine V_iln (pc := 49) dX9_reads_49 rfl rfl ?_
      refine V_imul (pc := 50) dX9_reads_50 ?_
      refine V_iln (pc := 51) dX9_reads_51 rfl rfl ?_
      refine V_iadd (pc := 52) dX9_reads_52 ?_
      refine M_ia (pc := 53) hM 294 (24 * i + k) dX9_reads_53 (by decide) (by decide) (by simp only [fa_lit, nI_add, pk_mul]) (by show (_ : Nat) < 96; omega) ?_
      refine V_is (pc := 54) (fun y => [(0, .ref m), (1, .int (nI i)), (2, .int (nI w)), (3, .int (nI k)), (4, .int y)]) dX9_reads_54 (by decide) (fun _ => rfl) (fun y54 ey54 => ?_)
      have e4 : y54 = A0 294 (24 * i + k) := by rw [ey54, hA 294 (by decide) (by decide)]
      refine V_il (pc := 56) dX9_reads_56 rfl ?_
      refine V_ldc (pc := 58) dX9_reads_58 (KC_X9_61 rfl) ?_
      refine V_ceq (pc := 60) (t := 76) dX9_reads_60 (by decide) (fun h60 => ?_) (fun h60 => ?_)
      · have hr2 : fread (A0 288) (A0 294) nt i w c (k + 1) = r := by rw [← hr]; show _ = (if _ then _ else _); rw [if_neg (fun q => q.1 (by rw [← e4]; exact h60))]
        refine V_inc (pc := 76) (fun y => [(0, .ref m), (1, .int (nI i)), (2, .int (nI w)), (3, .int y), (4, .int y54)]) (w := 1) dX9_reads_76 (by decide) (by decide) rfl (fun _ => rfl) (fun y76 ey76 => ?_)
        obtain rfl : y76 = nI (k + 1) := by rw [ey76]; exact nI_1 _
        refine V_goto (pc := 79) (t := 33) dX9_reads_79 (by decide) ?_
        refine V_lp [0, 1, 2, 3] (ls' := [(0, .ref m), (1, .int (nI i)), (2, .int (nI w)), (3, .int (nI (k + 1)))]) rfl ?_
        exact ih (k + 1) (by omega) _ hA hr2
      · refine V_il (pc := 63) dX9_reads_63 rfl ?_
        refine V_aln (pc := 65) dX9_reads_65 rfl rfl ?_
        refine V_iln (pc := 66) dX9_reads_66 rfl rfl ?_
        refine V_iln (pc := 67) dX9_reads_67 rfl rfl ?_
        refine V_cVi0 (pc := 68) (jc_X9_179 dX9_reads_68 rfl) rfl rfl (Nat.le_of_ble_eq_true rfl) (mF_k hM) ?_
        refine m_behindOf hM (nt := nt) (by omega) (by rw [sc_self hA]; exact hI) hw (fun A2 hs => ?_)
        refine V_ceq (pc := 71) (t := 76) dX9_reads_71 (by decide) (fun h71 => ?_) (fun h71 => ?_)
        · have hr2 : fread (A0 288) (A0 294) nt i w c (k + 1) = r := by rw [← hr]; show _ = (if _ then _ else _); rw [if_neg (fun q => q.2 (by rw [← e4, h71, sc_self hA]))]
          refine V_inc (pc := 76) (fun y => [(0, .ref m), (1, .int (nI i)), (2, .int (nI w)), (3, .int y), (4, .int y54)]) (w := 1) dX9_reads_76 (by decide) (by decide) rfl (fun _ => rfl) (fun y76 ey76 => ?_)
          obtain rfl : y76 = nI (k + 1) := by rw [ey76]; exact nI_1 _
          refine V_goto (pc := 79) (t := 33) dX9_reads_79 (by decide) ?_
          refine V_lp [0, 1, 2, 3] (ls' := [(0, .ref m), (1, .int (nI i)), (2, .int (nI w)), (3, .int (nI (k + 1)))]) rfl ?_
          exact ih (k + 1) (by omega) _ (hA.tr hs) hr2
        · obtain rfl : some k = r := by rw [← hr]; show _ = (if _ then _ else _); rw [if_pos ⟨by rw [← e4]; exact h60, by rw [← e4, ← sc_self hA]; exact h71⟩]
          refine V_iln (pc := 74) dX9_reads_74 rfl rfl ?_
          refine V_iret (pc := 75) dX9_reads_75 rfl rfl ?_
          exact h A2 (hA.tr hs)
set_option maxRecDepth 100000 in
set_option maxHeartbeats 4000000 in
theorem M_reads {x : pX} {d : Nat} {S : pS} {m : Nat} {as : Nat → Nat} {A : Nat → Nat → Int32} {F : Nat → Int32} {Q : Int32 → pS → Prop} (hM : MF S m as) {n nt np : Nat} {k w : Int32} (hS : SI (A 292) (A 293)) (hI : MI (A 288) n nt np) (h : ∀ A2, sc A A2 → Q (o_reads (A 292) (A 293) (A 294) (A 288) n nt k w) (mP S m as A2 F)) : PI x (d + 5) M_X9_reads [.ref m, .int k, .int w] (mP S m as A F) Q := by
  have hn10 := hI.1.2
  unfold o_reads at h
  refine PM_of (by decide +kernel) (Nat.le_of_ble_eq_true rfl) ?_
  show V x (d + 5) M_X9_reads (qi Q) (0, 0) 0 [(0, .ref m), (1, .int k), (2, .int w)] [] (mP S m as A F)
  refine V_iln (pc := 0) dX9_reads_0 rfl rfl ?_
  refine V_cSi0 (pc := 1) (jc_X9_297 dX9_reads_1 rfl) rfl rfl (Nat.le_of_ble_eq_true rfl) ?_
  refine m_isSheet (fun i hi ei ti ci => ?_) (fun ni => ?_)
  · subst ei
    obtain ⟨hso, z, hz, ez⟩ := hS i hi
    refine V_eq (pc := 4) (t := 15) dX9_reads_4 (by decide) (fun h => absurd h (by decide)) (fun _ => ?_)
    refine V_aln (pc := 7) dX9_reads_7 rfl rfl ?_
    refine V_iln (pc := 8) dX9_reads_8 rfl rfl ?_
    refine V_cVi0 (pc := 9) (jc_X9_105 dX9_reads_9 rfl) rfl rfl (Nat.le_of_ble_eq_true rfl) (mF_k hM) ?_
    refine m_isWeight hM hI.1.1 (by omega) (fun j hj ej tj cj => ?_) (fun nj => ?_)
    · subst ej
      rw [if_pos (by omega), ci, cj] at h
      refine V_ne (pc := 12) (t := 18) dX9_reads_12 (by decide) (fun _ => ?_) (fun h => absurd h (by decide))
      refine V_aln (pc := 18) dX9_reads_18 rfl rfl ?_
      refine M_gr (pc := 19) hM 4 292 dX9_reads_19 (FL_X9_19 rfl) rfl rfl (by decide) ?_
      refine V_iln (pc := 22) dX9_reads_22 rfl rfl ?_
      refine M_ia (pc := 23) hM 292 i dX9_reads_23 (by decide) (by decide) rfl (by show (_ : Nat) < 4; omega) ?_
      refine V_ge (pc := 24) (t := 31) dX9_reads_24 (by decide) (fun h24 => ?_) (fun h24 => ?_)
      · rw [if_neg (Int32.not_lt.mpr h24), ez, nI_clamp (by omega)] at h
        refine V_iconst (pc := 31) (v := 0) dX9_reads_31 (by decide) ?_
        refine V_isn (pc := 32) (fun y => [(0, .ref m), (1, .int (nI i)), (2, .int (nI j)), (3, .int y)]) dX9_reads_32 rfl (by decide) (fun _ => rfl) (fun y32 ey32 => ?_)
        obtain rfl : y32 = nI 0 := ey32
        exact m_reads_L hM hi (by omega) hz ez hI h z 0 (by omega) A sc.rf rfl
      · rw [if_pos (Int32.not_le.mp h24)] at h
        refine V_ldcw (pc := 27) dX9_reads_27 (KC_X9_303 rfl) ?_
        refine V_iret (pc := 30) dX9_reads_30 rfl rfl ?_
        exact h A sc.rf
    · refine V_ne (pc := 12) (t := 18) dX9_reads_12 (by decide) (fun h => absurd h (by decide)) (fun _ => ?_)
      refine V_ldc (pc := 15) dX9_reads_15 (KC_X9_82 rfl) ?_
      refine V_iret (pc := 17) dX9_reads_17 rfl rfl ?_
      rw [if_neg (by omega)] at h
      exact h A sc.rf
  · refine V_eq (pc := 4) (t := 15) dX9_reads_4 (by decide) (fun _ => ?_) (fun h => absurd h (by decide))
    refine V_ldc (pc := 15) dX9_reads_15 (KC_X9_82 rfl) ?_
    refine V_iret (pc := 17) dX9_reads_17 rfl rfl ?_
    rw [if_neg (by omega)] at h
    exact h A sc.rf
