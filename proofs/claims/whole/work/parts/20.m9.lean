/-! ===== the model: slots, rows, images ===== -/
def o_ask (hd hn hw : Nat → Int32) (s k : Int32) : Int32 := if 0 ≤ s.toInt ∧ s.toInt ≤ 4 ∧ 0 ≤ k.toInt ∧ k.toInt ≤ 5 then (if hd s.toNatClampNeg = 0 then -1000000011 else if hd s.toNatClampNeg = 1 ∧ fisOf (hn s.toNatClampNeg) k then hw s.toNatClampNeg else -1000000012) else -1000000001
set_option maxRecDepth 100000 in
set_option maxHeartbeats 4000000 in
theorem M_ask {x : pX} {d : Nat} {S : pS} {m : Nat} {as : Nat → Nat} {A : Nat → Nat → Int32} {F : Nat → Int32} {Q : Int32 → pS → Prop} (hM : MF S m as) {s k : Int32} (h : Q (o_ask (A 295) (A 296) (A 297) s k) (mP S m as A F)) : PI x (d + 3) M_X9_ask [.ref m, .int s, .int k] (mP S m as A F) Q := by
  unfold o_ask at h
  refine PM_of (by decide +kernel) (Nat.le_of_ble_eq_true rfl) ?_
  show V x (d + 3) M_X9_ask (qi Q) (0, 0) 0 [(0, .ref m), (1, .int s), (2, .int k)] [] (mP S m as A F)
  refine V_iln (pc := 0) dX9_ask_0 rfl rfl ?_
  refine V_cSi0 (pc := 1) (jc_X9_311 dX9_ask_1 rfl) rfl rfl (Nat.le_of_ble_eq_true rfl) ?_
  refine m_isSlot (fun i hi ei ti ci => ?_) (fun ni => ?_)
  · subst ei
    refine V_eq (pc := 4) (t := 19) dX9_ask_4 (by decide) (fun h => absurd h (by decide)) (fun _ => ?_)
    refine V_iln (pc := 7) dX9_ask_7 rfl rfl ?_
    refine V_i2l (pc := 8) dX9_ask_8 ?_
    refine V_lconst (pc := 9) (v := 0) dX9_ask_9 (by decide) ?_
    refine V_ldc2 (pc := 10) dX9_ask_10 (KC_X9_78 rfl) ?_
    refine V_cSi0 (pc := 13) (jc_X9_62 dX9_ask_13 rfl) rfl rfl (Nat.le_of_ble_eq_true rfl) ?_
    refine m_isIn (l := 0) 0 5 (by decide) (by decide) (fun a1 a2 => ?_) (fun a0 => ?_)
    · rw [if_pos (by omega), ci] at h
      refine V_ne (pc := 16) (t := 22) dX9_ask_16 (by decide) (fun _ => ?_) (fun h => absurd h (by decide))
      refine V_aln (pc := 22) dX9_ask_22 rfl rfl ?_
      refine M_gr (pc := 23) hM 7 295 dX9_ask_23 (FL_X9_28 rfl) rfl rfl (by decide) ?_
      refine V_iln (pc := 26) dX9_ask_26 rfl rfl ?_
      refine M_ia (pc := 27) hM 295 i dX9_ask_27 (by decide) (by decide) rfl (by show (_ : Nat) < 5; omega) ?_
      refine V_ne (pc := 28) (t := 35) dX9_ask_28 (by decide) (fun h28 => ?_) (fun h28 => ?_)
      · rw [if_neg h28] at h
        refine V_aln (pc := 35) dX9_ask_35 rfl rfl ?_
        refine M_gr (pc := 36) hM 7 295 dX9_ask_36 (FL_X9_28 rfl) rfl rfl (by decide) ?_
        refine V_iln (pc := 39) dX9_ask_39 rfl rfl ?_
        refine M_ia (pc := 40) hM 295 i dX9_ask_40 (by decide) (by decide) rfl (by show (_ : Nat) < 5; omega) ?_
        refine V_iconst (pc := 41) (v := 1) dX9_ask_41 (by decide) ?_
        refine V_cne (pc := 42) (t := 67) dX9_ask_42 (by decide) (fun h42 => ?_) (fun h42 => ?_)
        · rw [if_neg (fun w => h42 w.1)] at h
          refine V_ldc (pc := 67) dX9_ask_67 (KC_X9_119 rfl) ?_
          refine V_iret (pc := 69) dX9_ask_69 rfl rfl ?_
          exact h
        · refine V_aln (pc := 45) dX9_ask_45 rfl rfl ?_
          refine M_gr (pc := 46) hM 8 296 dX9_ask_46 (FL_X9_31 rfl) rfl rfl (by decide) ?_
          refine V_iln (pc := 49) dX9_ask_49 rfl rfl ?_
          refine M_ia (pc := 50) hM 296 i dX9_ask_50 (by decide) (by decide) rfl (by show (_ : Nat) < 5; omega) ?_
          refine V_iln (pc := 51) dX9_ask_51 rfl rfl ?_
          refine V_cSi0 (pc := 52) (jc_X9_115 dX9_ask_52 rfl) rfl rfl (Nat.le_of_ble_eq_true rfl) ?_
          refine m_isOf (fun q => ?_) (fun q => ?_)
          · rw [if_pos ⟨h42, q⟩] at h
            refine V_eq (pc := 55) (t := 67) dX9_ask_55 (by decide) (fun h => absurd h (by decide)) (fun _ => ?_)
            refine V_aln (pc := 58) dX9_ask_58 rfl rfl ?_
            refine M_gr (pc := 59) hM 9 297 dX9_ask_59 (FL_X9_34 rfl) rfl rfl (by decide) ?_
            refine V_iln (pc := 62) dX9_ask_62 rfl rfl ?_
            refine M_ia (pc := 63) hM 297 i dX9_ask_63 (by decide) (by decide) rfl (by show (_ : Nat) < 5; omega) ?_
            refine V_goto (pc := 64) (t := 69) dX9_ask_64 (by decide) ?_
            refine V_iret (pc := 69) dX9_ask_69 rfl rfl ?_
            exact h
          · rw [if_neg (fun w => q w.2)] at h
            refine V_eq (pc := 55) (t := 67) dX9_ask_55 (by decide) (fun _ => ?_) (fun h => absurd h (by decide))
            refine V_ldc (pc := 67) dX9_ask_67 (KC_X9_119 rfl) ?_
            refine V_iret (pc := 69) dX9_ask_69 rfl rfl ?_
            exact h
      · rw [if_pos h28] at h
        refine V_ldcw (pc := 31) dX9_ask_31 (KC_X9_303 rfl) ?_
        refine V_iret (pc := 34) dX9_ask_34 rfl rfl ?_
        exact h
    · refine V_ne (pc := 16) (t := 22) dX9_ask_16 (by decide) (fun h => absurd h (by decide)) (fun _ => ?_)
      refine V_ldc (pc := 19) dX9_ask_19 (KC_X9_82 rfl) ?_
      refine V_iret (pc := 21) dX9_ask_21 rfl rfl ?_
      rw [if_neg (by omega)] at h
      exact h
  · refine V_eq (pc := 4) (t := 19) dX9_ask_4 (by decide) (fun _ => ?_) (fun h => absurd h (by decide))
    refine V_ldc (pc := 19) dX9_ask_19 (KC_X9_82 rfl) ?_
    refine V_iret (pc := 21) dX9_ask_21 rfl rfl ?_
    rw [if_neg (by omega)] at h
    exact h
/-- what slots hold is in order -/
def HI (hd hz : Nat → Int32) : Prop := ∀ k, k < 5 → (hd k = 0 ∨ hd k = 1 ∨ hd k = 2 ∨ hd k = 3) ∧ ∃ z : Nat, z ≤ 24 ∧ hz k = nI z
def o_item (hd hz hr : Nat → Int32) (s p : Int32) : Int32 := if 0 ≤ s.toInt ∧ s.toInt ≤ 4 then (if ¬ hd s.toNatClampNeg = 2 then (if hd s.toNatClampNeg = 0 then -1000000011 else -1000000012) else if 0 ≤ p.toInt ∧ p.toInt < (hz s.toNatClampNeg).toInt then (if hr (24 * s.toNatClampNeg + p.toNatClampNeg) = -1000000005 then -1000000012 else hr (24 * s.toNatClampNeg + p.toNatClampNeg)) else -1000000013) else -1000000001
set_option maxRecDepth 100000 in
set_option maxHeartbeats 4000000 in
theorem M_item {x : pX} {d : Nat} {S : pS} {m : Nat} {as : Nat → Nat} {A : Nat → Nat → Int32} {F : Nat → Int32} {Q : Int32 → pS → Prop} (hM : MF S m as) {s p : Int32} (hH : HI (A 295) (A 298)) (h : Q (o_item (A 295) (A 298) (A 299) s p) (mP S m as A F)) : PI x (d + 3) M_X9_item [.ref m, .int s, .int p] (mP S m as A F) Q := by
  unfold o_item at h
  refine PM_of (by decide +kernel) (Nat.le_of_ble_eq_true rfl) ?_
  show V x (d + 3) M_X9_item (qi Q) (0, 0) 0 [(0, .ref m), (1, .int s), (2, .int p)] [] (mP S m as A F)
  refine V_iln (pc := 0) dX9_item_0 rfl rfl ?_
  refine V_cSi0 (pc := 1) (jc_X9_311 dX9_item_1 rfl) rfl rfl (Nat.le_of_ble_eq_true rfl) ?_
  refine m_isSlot (fun i hi ei ti ci => ?_) (fun ni => ?_)
  · subst ei
    rw [if_pos (by omega), ci] at h
    obtain ⟨hso, z, hz, ez⟩ := hH i hi
    have tz : (nI z).toInt = z := nI_toInt (by omega)
    refine V_ne (pc := 4) (t := 10) dX9_item_4 (by decide) (fun _ => ?_) (fun h => absurd h (by decide))
    refine V_aln (pc := 10) dX9_item_10 rfl rfl ?_
    refine M_gr (pc := 11) hM 7 295 dX9_item_11 (FL_X9_28 rfl) rfl rfl (by decide) ?_
    refine V_iln (pc := 14) dX9_item_14 rfl rfl ?_
    refine M_ia (pc := 15) hM 295 i dX9_item_15 (by decide) (by decide) rfl (by show (_ : Nat) < 5; omega) ?_
    refine V_iconst (pc := 16) (v := 2) dX9_item_16 (by decide) ?_
    refine V_ceq (pc := 17) (t := 38) dX9_item_17 (by decide) (fun h17 => ?_) (fun h17 => ?_)
    · rw [if_neg (fun w => w h17)] at h
      refine V_iln (pc := 38) dX9_item_38 rfl rfl ?_
      refine V_i2l (pc := 39) dX9_item_39 ?_
      refine V_lconst (pc := 40) (v := 0) dX9_item_40 (by decide) ?_
      refine V_aln (pc := 41) dX9_item_41 rfl rfl ?_
      refine M_gr (pc := 42) hM 10 298 dX9_item_42 (FL_X9_37 rfl) rfl rfl (by decide) ?_
      refine V_iln (pc := 45) dX9_item_45 rfl rfl ?_
      refine M_ia (pc := 46) hM 298 i dX9_item_46 (by decide) (by decide) rfl (by show (_ : Nat) < 5; omega) ?_
      refine V_iconst (pc := 47) (v := 1) dX9_item_47 (by decide) ?_
      refine V_isub (pc := 48) dX9_item_48 ?_
      refine V_i2l (pc := 49) dX9_item_49 ?_
      refine V_cSi0 (pc := 50) (jc_X9_62 dX9_item_50 rfl) rfl rfl (Nat.le_of_ble_eq_true rfl) ?_
      refine m_isIn (l := 0) 0 (z - 1) (by decide) (by rw [i64_toInt, ez, show (1 : Int32) = nI 1 from rfl, pk_sub_toInt (by omega) (by decide)]; rfl) (fun c1 c2 => ?_) (fun c0 => ?_)
      · obtain ⟨q, hq, f1, f2, f3⟩ := idx_of (w := p) (n := z) (by omega) c1 (by omega)
        subst f1
        rw [if_pos ⟨by omega, by rw [ez, tz]; omega⟩, f3] at h
        refine V_ne (pc := 53) (t := 60) dX9_item_53 (by decide) (fun _ => ?_) (fun h => absurd h (by decide))
        refine V_aln (pc := 60) dX9_item_60 rfl rfl ?_
        refine M_gr (pc := 61) hM 11 299 dX9_item_61 (FL_X9_40 rfl) rfl rfl (by decide) ?_
        refine V_bipush (pc := 64) (v := 24) dX9_item_64 (by decide) ?_
        refine V_iln (pc := 66) dX9_item_66 rfl rfl ?_
        refine V_imul (pc := 67) dX9_item_67 ?_
        refine V_iln (pc := 68) dX9_item_68 rfl rfl ?_
        refine V_iadd (pc := 69) dX9_item_69 ?_
        refine M_ia (pc := 70) hM 299 (24 * i + q) dX9_item_70 (by decide) (by decide) (by simp only [fa_lit, nI_add, pk_mul]) (by show (_ : Nat) < 120; omega) ?_
        refine V_isn (pc := 71) (fun y => [(0, .ref m), (1, .int (nI i)), (2, .int (nI q)), (3, .int y)]) dX9_item_71 rfl (by decide) (fun _ => rfl) (fun y71 ey71 => ?_)
        refine V_iln (pc := 72) dX9_item_72 rfl rfl ?_
        refine V_ldc (pc := 73) dX9_item_73 (KC_X9_61 rfl) ?_
        refine V_cne (pc := 75) (t := 83) dX9_item_75 (by decide) (fun h75 => ?_) (fun h75 => ?_)
        · rw [if_neg (by rw [← ey71]; exact h75), ← ey71] at h
          refine V_iln (pc := 83) dX9_item_83 rfl rfl ?_
          refine V_iret (pc := 84) dX9_item_84 rfl rfl ?_
          exact h
        · rw [if_pos (by rw [← ey71]; exact h75)] at h
          refine V_ldc (pc := 78) dX9_item_78 (KC_X9_119 rfl) ?_
          refine V_goto (pc := 80) (t := 84) dX9_item_80 (by decide) ?_
          refine V_iret (pc := 84) dX9_item_84 rfl rfl ?_
          exact h
      · rw [if_neg (by rw [ez, tz]; omega)] at h
        refine V_ne (pc := 53) (t := 60) dX9_item_53 (by decide) (fun h => absurd h (by decide)) (fun _ => ?_)
        refine V_ldcw (pc := 56) dX9_item_56 (KC_X9_304 rfl) ?_
        refine V_iret (pc := 59) dX9_item_59 rfl rfl ?_
        exact h
    · rw [if_pos h17] at h
      refine V_aln (pc := 20) dX9_item_20 rfl rfl ?_
      refine M_gr (pc := 21) hM 7 295 dX9_item_21 (FL_X9_28 rfl) rfl rfl (by decide) ?_
      refine V_iln (pc := 24) dX9_item_24 rfl rfl ?_
      refine M_ia (pc := 25) hM 295 i dX9_item_25 (by decide) (by decide) rfl (by show (_ : Nat) < 5; omega) ?_
      refine V_ne (pc := 26) (t := 35) dX9_item_26 (by decide) (fun h26 => ?_) (fun h26 => ?_)
      · rw [if_neg h26] at h
        refine V_ldc (pc := 35) dX9_item_35 (KC_X9_119 rfl) ?_
        refine V_iret (pc := 37) dX9_item_37 rfl rfl ?_
        exact h
      · rw [if_pos h26] at h
        refine V_ldcw (pc := 29) dX9_item_29 (KC_X9_303 rfl) ?_
        refine V_goto (pc := 32) (t := 37) dX9_item_32 (by decide) ?_
        refine V_iret (pc := 37) dX9_item_37 rfl rfl ?_
        exact h
  · rw [if_neg (by omega)] at h
    refine V_ne (pc := 4) (t := 10) dX9_item_4 (by decide) (fun h => absurd h (by decide)) (fun _ => ?_)
    refine V_ldc (pc := 7) dX9_item_7 (KC_X9_82 rfl) ?_
    refine V_iret (pc := 9) dX9_item_9 rfl rfl ?_
    exact h
def o_rest (hd hn : Nat → Int32) (s v : Int32) : Int32 := if 0 ≤ s.toInt ∧ s.toInt ≤ 4 then (if ¬ hd s.toNatClampNeg = 3 then (if hd s.toNatClampNeg = 0 then -1000000011 else -1000000012) else if v = 0 then -1000000002 else hn s.toNatClampNeg - hn s.toNatClampNeg / v * v) else -1000000001
set_option maxRecDepth 100000 in
set_option maxHeartbeats 4000000 in
theorem M_rest {x : pX} {d : Nat} {S : pS} {m : Nat} {as : Nat → Nat} {A : Nat → Nat → Int32} {F : Nat → Int32} {Q : Int32 → pS → Prop} (hM : MF S m as) {s v : Int32} (h : Q (o_rest (A 295) (A 296) s v) (mP S m as A F)) : PI x (d + 3) M_X9_rest [.ref m, .int s, .int v] (mP S m as A F) Q := by
  unfold o_rest at h
  refine PM_of (by decide +kernel) (Nat.le_of_ble_eq_true rfl) ?_
  show V x (d + 3) M_X9_rest (qi Q) (0, 0) 0 [(0, .ref m), (1, .int s), (2, .int v)] [] (mP S m as A F)
  refine V_iln (pc := 0) dX9_rest_0 rfl rfl ?_
  refine V_cSi0 (pc := 1) (jc_X9_311 dX9_rest_1 rfl) rfl rfl (Nat.le_of_ble_eq_true rfl) ?_
  refine m_isSlot (fun i hi ei ti ci => ?_) (fun ni => ?_)
  · subst ei
    rw [if_pos (by omega), ci] at h
    refine V_ne (pc := 4) (t := 10) dX9_rest_4 (by decide) (fun _ => ?_) (fun h => absurd h (by decide))
    refine V_aln (pc := 10) dX9_rest_10 rfl rfl ?_
    refine M_gr (pc := 11) hM 7 295 dX9_rest_11 (FL_X9_28 rfl) rfl rfl (by decide) ?_
    refine V_iln (pc := 14) dX9_rest_14 rfl rfl ?_
    refine M_ia (pc := 15) hM 295 i dX9_rest_15 (by decide) (by decide) rfl (by show (_ : Nat) < 5; omega) ?_
    refine V_iconst (pc := 16) (v := 3) dX9_rest_16 (by decide) ?_
    refine V_ceq (pc := 17) (t := 38) dX9_rest_17 (by decide) (fun h17 => ?_) (fun h17 => ?_)
    · rw [if_neg (fun w => w h17)] at h
      refine V_iln (pc := 38) dX9_rest_38 rfl rfl ?_
      refine V_ne (pc := 39) (t := 47) dX9_rest_39 (by decide) (fun h39 => ?_) (fun h39 => ?_)
      · rw [if_neg h39] at h
        refine V_aln (pc := 47) dX9_rest_47 rfl rfl ?_
        refine M_gr (pc := 48) hM 8 296 dX9_rest_48 (FL_X9_31 rfl) rfl rfl (by decide) ?_
        refine V_iln (pc := 51) dX9_rest_51 rfl rfl ?_
        refine M_ia (pc := 52) hM 296 i dX9_rest_52 (by decide) (by decide) rfl (by show (_ : Nat) < 5; omega) ?_
        refine V_iln (pc := 53) dX9_rest_53 rfl rfl ?_
        refine V_irem (pc := 54) dX9_rest_54 h39 ?_
        refine V_iret (pc := 55) dX9_rest_55 rfl rfl ?_
        exact h
      · rw [if_pos h39] at h
        refine V_ldc (pc := 42) dX9_rest_42 (KC_X9_139 rfl) ?_
        refine V_goto (pc := 44) (t := 55) dX9_rest_44 (by decide) ?_
        refine V_iret (pc := 55) dX9_rest_55 rfl rfl ?_
        exact h
    · rw [if_pos h17] at h
      refine V_aln (pc := 20) dX9_rest_20 rfl rfl ?_
      refine M_gr (pc := 21) hM 7 295 dX9_rest_21 (FL_X9_28 rfl) rfl rfl (by decide) ?_
      refine V_iln (pc := 24) dX9_rest_24 rfl rfl ?_
      refine M_ia (pc := 25) hM 295 i dX9_rest_25 (by decide) (by decide) rfl (by show (_ : Nat) < 5; omega) ?_
      refine V_ne (pc := 26) (t := 35) dX9_rest_26 (by decide) (fun h26 => ?_) (fun h26 => ?_)
      · rw [if_neg h26] at h
        refine V_ldc (pc := 35) dX9_rest_35 (KC_X9_119 rfl) ?_
        refine V_iret (pc := 37) dX9_rest_37 rfl rfl ?_
        exact h
      · rw [if_pos h26] at h
        refine V_ldcw (pc := 29) dX9_rest_29 (KC_X9_303 rfl) ?_
        refine V_goto (pc := 32) (t := 37) dX9_rest_32 (by decide) ?_
        refine V_iret (pc := 37) dX9_rest_37 rfl rfl ?_
        exact h
  · rw [if_neg (by omega)] at h
    refine V_ne (pc := 4) (t := 10) dX9_rest_4 (by decide) (fun h => absurd h (by decide)) (fun _ => ?_)
    refine V_ldc (pc := 7) dX9_rest_7 (KC_X9_82 rfl) ?_
    refine V_iret (pc := 9) dX9_rest_9 rfl rfl ?_
    exact h
def o_tell (w : Nat → Int32) (c : Nat) (v : Int32) : Int32 × (Nat → Int32) × Nat := if c = 60 then (-1000000003, w, c) else (nI (c + 1), upd w c v, c + 1)
set_option maxRecDepth 100000 in
set_option maxHeartbeats 4000000 in
theorem M_tell {x : pX} {d : Nat} {S : pS} {m : Nat} {as : Nat → Nat} {A : Nat → Nat → Int32} {F : Nat → Int32} {Q : Int32 → pS → Prop} (hM : MF S m as) {c : Nat} {v : Int32} (hc : F 316 = nI c) (hc60 : c ≤ 60) (h : Q (o_tell (A 315) c v).1 (mP S m as (va_up A 315 (o_tell (A 315) c v).2.1) (va_up F 316 (nI (o_tell (A 315) c v).2.2)))) : PI x (d + 1) M_X9_tell [.ref m, .int v] (mP S m as A F) Q := by
  unfold o_tell at h
  refine PM_of (by decide +kernel) (Nat.le_of_ble_eq_true rfl) ?_
  show V x (d + 1) M_X9_tell (qi Q) (0, 0) 0 [(0, .ref m), (1, .int v)] [] (mP S m as A F)
  refine V_aln (pc := 0) dX9_tell_0 rfl rfl ?_
  refine M_gi (pc := 1) hM 28 316 dX9_tell_1 (FL_X9_314 rfl) rfl rfl ?_
  refine V_bipush (pc := 4) (v := 60) dX9_tell_4 (by decide) ?_
  refine V_cne (pc := 6) (t := 12) dX9_tell_6 (by decide) (fun h6 => ?_) (fun h6 => ?_)
  · have e : ¬ c = 60 := fun q => h6 (by rw [hc, q]; rfl)
    rw [if_neg e] at h
    refine V_aln (pc := 12) dX9_tell_12 rfl rfl ?_
    refine M_gr (pc := 13) hM 27 315 dX9_tell_13 (FL_X9_55 rfl) rfl rfl (by decide) ?_
    refine V_aln (pc := 16) dX9_tell_16 rfl rfl ?_
    refine M_gi (pc := 17) hM 28 316 dX9_tell_17 (FL_X9_314 rfl) rfl rfl ?_
    refine V_iln (pc := 20) dX9_tell_20 rfl rfl ?_
    refine M_ias (pc := 21) hM 315 c dX9_tell_21 (by decide) (by decide) hc (by show (_ : Nat) < 60; omega) ?_
    refine V_aln (pc := 22) dX9_tell_22 rfl rfl ?_
    refine V_dup (pc := 23) dX9_tell_23 rfl ?_
    refine M_gi (pc := 24) hM 28 316 dX9_tell_24 (FL_X9_314 rfl) rfl rfl ?_
    refine V_iconst (pc := 27) (v := 1) dX9_tell_27 (by decide) ?_
    refine V_iadd (pc := 28) dX9_tell_28 ?_
    refine M_pi (pc := 29) hM 28 316 dX9_tell_29 (FL_X9_314 rfl) rfl rfl rfl ?_
    refine V_aln (pc := 32) dX9_tell_32 rfl rfl ?_
    refine M_gi (pc := 33) hM 28 316 dX9_tell_33 (FL_X9_314 rfl) rfl rfl ?_
    refine V_iret (pc := 36) dX9_tell_36 rfl rfl ?_
    have e2 : F 316 + 1 = nI (c + 1) := by rw [hc]; exact nI_1 c
    rw [va_up_self, e2]; exact h
  · have e : c = 60 := (nI_eq (by omega) (by decide)).mp (by rw [← hc]; exact h6)
    rw [if_pos e] at h
    dsimp only at h
    rw [vu_self, ← hc, vu_self] at h
    refine V_ldc (pc := 9) dX9_tell_9 (KC_X9_83 rfl) ?_
    refine V_iret (pc := 11) dX9_tell_11 rfl rfl ?_
    exact h
/-- the first j numbers of one row laid over another's -/
def lyd (f g : Nat → Int32) (j : Nat) : Nat → Int32 := fun k => if k < j then f k else g k
theorem lyd_0 (f g : Nat → Int32) : lyd f g 0 = g := by funext k; unfold lyd; rw [if_neg (by omega)]
theorem lyd_s (f g : Nat → Int32) (j : Nat) : upd (lyd f g j) j (f j) = lyd f g (j + 1) := by
  funext k
  by_cases hk : k = j
  · subst hk; rw [pk_us]; unfold lyd; rw [if_pos (by omega)]
  · rw [pk_un hk]; unfold lyd
    by_cases h2 : k < j
    · rw [if_pos h2, if_pos (by omega)]
    · rw [if_neg h2, if_neg (by omega)]
set_option maxRecDepth 100000 in
set_option maxHeartbeats 4000000 in
theorem m_setAside_L {x : pX} {d : Nat} {S : pS} {m : Nat} {as : Nat → Nat} {F : Nat → Int32} {A : Nat → Nat → Int32} {b : Nat × Nat} {Q : pS → Prop} (hM : MF S m as) {p q : Nat} (hpA : p ∈ AF) (hqA : q ∈ AF) (ep : aN p = 3154) (eq : aN q = 3154) (hpq : p ≠ q) (h : Q (mP S m as (va_up A q (lyd (A p) (A q) 2954)) F)) : ∀ (c k : Nat), k + c = 2954 → V x (d + 1) M_X9_setAside (qv Q) b 2 [(0, .ref m), (1, .ref ((as p))), (2, .ref ((as q))), (3, .int (nI k))] [] (mP S m as (va_up A q (lyd (A p) (A q) k)) F) := by
  intro c
  induction c with
  | zero =>
    intro k hk
    refine V_iln (pc := 2) dX9_setAside_2 rfl rfl ?_
    refine V_sipush (pc := 3) (v := 2954) dX9_setAside_3 (by decide) ?_
    refine V_cge (pc := 6) (t := 21) dX9_setAside_6 (by decide) (fun h6 => ?_) (fun h6 => ?_)
    · refine V_ret (pc := 21) dX9_setAside_21 rfl ?_
      obtain rfl : k = 2954 := by omega
      exact h
    · exact absurd (nI_le (a := 2954) (by omega) (by omega)) h6
  | succ c ih =>
    intro k hk
    refine V_iln (pc := 2) dX9_setAside_2 rfl rfl ?_
    refine V_sipush (pc := 3) (v := 2954) dX9_setAside_3 (by decide) ?_
    refine V_cge (pc := 6) (t := 21) dX9_setAside_6 (by decide) (fun h6 => ?_) (fun h6 => ?_)
    · exact absurd h6 (nI_ge (b := 2954) (by omega) (by decide))
    · refine V_aln (pc := 9) dX9_setAside_9 rfl rfl ?_
      refine V_iln (pc := 10) dX9_setAside_10 rfl rfl ?_
      refine V_aln (pc := 11) dX9_setAside_11 rfl rfl ?_
      refine V_iln (pc := 12) dX9_setAside_12 rfl rfl ?_
      refine M_ia (pc := 13) hM p k dX9_setAside_13 hpA (by rw [ep]; decide) rfl (by rw [ep]; omega) ?_
      refine M_ias (pc := 14) hM q k dX9_setAside_14 hqA (by rw [eq]; decide) rfl (by rw [eq]; omega) ?_
      rw [va_up_ne _ _ hpq, va_up_self, vu_vu, lyd_s]
      refine V_inc (pc := 15) (fun y => [(0, .ref m), (1, .ref (as p)), (2, .ref (as q)), (3, .int y)]) (w := 1) dX9_setAside_15 (by decide) (by decide) rfl (fun _ => rfl) (fun y15 ey15 => ?_)
      obtain rfl : y15 = nI (k + 1) := by rw [ey15]; exact nI_1 _
      refine V_goto (pc := 18) (t := 2) dX9_setAside_18 (by decide) ?_
      exact ih (k + 1) (by omega)
set_option maxRecDepth 100000 in
set_option maxHeartbeats 4000000 in
theorem m_setAside {x : pX} {d : Nat} {S : pS} {m : Nat} {as : Nat → Nat} {F : Nat → Int32} {A : Nat → Nat → Int32} {Q : pS → Prop} (hM : MF S m as) {p q : Nat} (hpA : p ∈ AF) (hqA : q ∈ AF) (ep : aN p = 3154) (eq : aN q = 3154) (hpq : p ≠ q) (h : Q (mP S m as (va_up A q (lyd (A p) (A q) 2954)) F)) : PV x (d + 1) M_X9_setAside [.ref m, .ref (as p), .ref (as q)] (mP S m as A F) Q := by
  refine PM_of (by decide +kernel) (Nat.le_of_ble_eq_true rfl) ?_
  show V x (d + 1) M_X9_setAside (qv Q) (0, 0) 0 [(0, .ref m), (1, .ref ((as p))), (2, .ref ((as q)))] [] (mP S m as A F)
  refine V_iconst (pc := 0) (v := 0) dX9_setAside_0 (by decide) ?_
  refine V_isn (pc := 1) (fun y => [(0, .ref m), (1, .ref ((as p))), (2, .ref ((as q))), (3, .int y)]) dX9_setAside_1 rfl (by decide) (fun _ => rfl) (fun y1 ey1 => ?_)
  obtain rfl : y1 = nI 0 := ey1
  have e : va_up A q (lyd (A p) (A q) 0) = A := by rw [lyd_0]; exact vu_self A q
  rw [← e]
  exact m_setAside_L hM hpA hqA ep eq hpq h 2954 0 (by omega)
def o_back (hi : Int32) (s img : Nat → Int32) : Int32 × (Nat → Int32) := if hi = 0 then (-1000000002, s) else (img 0, lyd img s 2954)
set_option maxRecDepth 100000 in
set_option maxHeartbeats 4000000 in
theorem M_keep {x : pX} {d : Nat} {S : pS} {m : Nat} {as : Nat → Nat} {A : Nat → Nat → Int32} {F : Nat → Int32} {Q : Int32 → pS → Prop} (hM : MF S m as) (h : Q (A 288 0) (mP S m as (va_up A 289 (lyd (A 288) (A 289) 2954)) (va_up F 291 1))) : PI x (d + 2) M_X9_keep [.ref m] (mP S m as A F) Q := by
  refine PM_of (by decide +kernel) (Nat.le_of_ble_eq_true rfl) ?_
  show V x (d + 2) M_X9_keep (qi Q) (0, 0) 0 [(0, .ref m)] [] (mP S m as A F)
  refine V_aln (pc := 0) dX9_keep_0 rfl rfl ?_
  refine V_iconst (pc := 1) (v := 1) dX9_keep_1 (by decide) ?_
  refine M_pz (pc := 2) hM 3 291 dX9_keep_2 (FL_X9_319 rfl) rfl rfl rfl rfl rfl ?_
  refine V_aln (pc := 5) dX9_keep_5 rfl rfl ?_
  refine V_aln (pc := 6) dX9_keep_6 rfl rfl ?_
  refine M_gr (pc := 7) hM 0 288 dX9_keep_7 (FL_X9_7 rfl) rfl rfl (by decide) ?_
  refine V_aln (pc := 10) dX9_keep_10 rfl rfl ?_
  refine M_gr (pc := 11) hM 1 289 dX9_keep_11 (FL_X9_13 rfl) rfl rfl (by decide) ?_
  refine V_cVv0 (pc := 14) (jc_X9_323 dX9_keep_14 rfl) rfl rfl (Nat.le_of_ble_eq_true rfl) (mF_k hM) ?_
  refine m_setAside hM (p := 288) (q := 289) (by decide) (by decide) rfl rfl (by decide) ?_
  refine V_aln (pc := 17) dX9_keep_17 rfl rfl ?_
  refine M_gr (pc := 18) hM 0 288 dX9_keep_18 (FL_X9_7 rfl) rfl rfl (by decide) ?_
  refine V_iconst (pc := 21) (v := 0) dX9_keep_21 (by decide) ?_
  refine M_ia (pc := 22) hM 288 0 dX9_keep_22 (by decide) (by decide) (by simp only [fa_lit, nI_add, pk_mul]) (by show (_ : Nat) < 3154; omega) ?_
  refine V_iret (pc := 23) dX9_keep_23 rfl rfl ?_
  rw [va_up_ne _ _ (by decide)]; exact h
set_option maxRecDepth 100000 in
set_option maxHeartbeats 4000000 in
theorem M_back {x : pX} {d : Nat} {S : pS} {m : Nat} {as : Nat → Nat} {A : Nat → Nat → Int32} {F : Nat → Int32} {Q : Int32 → pS → Prop} (hM : MF S m as) (h : Q (o_back (F 291) (A 288) (A 289)).1 (mP S m as (uA A (o_back (F 291) (A 288) (A 289)).2) F)) : PI x (d + 2) M_X9_back [.ref m] (mP S m as A F) Q := by
  unfold o_back at h
  refine PM_of (by decide +kernel) (Nat.le_of_ble_eq_true rfl) ?_
  show V x (d + 2) M_X9_back (qi Q) (0, 0) 0 [(0, .ref m)] [] (mP S m as A F)
  refine V_aln (pc := 0) dX9_back_0 rfl rfl ?_
  refine M_gi (pc := 1) hM 3 291 dX9_back_1 (FL_X9_319 rfl) rfl rfl ?_
  refine V_ne (pc := 4) (t := 10) dX9_back_4 (by decide) (fun h4 => ?_) (fun h4 => ?_)
  · rw [if_neg h4] at h
    refine V_aln (pc := 10) dX9_back_10 rfl rfl ?_
    refine V_aln (pc := 11) dX9_back_11 rfl rfl ?_
    refine M_gr (pc := 12) hM 1 289 dX9_back_12 (FL_X9_13 rfl) rfl rfl (by decide) ?_
    refine V_aln (pc := 15) dX9_back_15 rfl rfl ?_
    refine M_gr (pc := 16) hM 0 288 dX9_back_16 (FL_X9_7 rfl) rfl rfl (by decide) ?_
    refine V_cVv0 (pc := 19) (jc_X9_323 dX9_back_19 rfl) rfl rfl (Nat.le_of_ble_eq_true rfl) (mF_k hM) ?_
    refine m_setAside hM (p := 289) (q := 288) (by decide) (by decide) rfl rfl (by decide) ?_
    refine V_aln (pc := 22) dX9_back_22 rfl rfl ?_
    refine M_gr (pc := 23) hM 0 288 dX9_back_23 (FL_X9_7 rfl) rfl rfl (by decide) ?_
    refine V_iconst (pc := 26) (v := 0) dX9_back_26 (by decide) ?_
    refine M_ia (pc := 27) hM 288 0 dX9_back_27 (by decide) (by decide) (by simp only [fa_lit, nI_add, pk_mul]) (by show (_ : Nat) < 3154; omega) ?_
    refine V_iret (pc := 28) dX9_back_28 rfl rfl ?_
    rw [va_up_self]
    exact h
  · rw [if_pos h4, uA_self] at h
    refine V_ldc (pc := 7) dX9_back_7 (KC_X9_139 rfl) ?_
    refine V_iret (pc := 9) dX9_back_9 rfl rfl ?_
    exact h
def o_count (σ : Nat → Int32) (n : Nat) (wt tp v : Int32) : Int32 := if v = 0 then σ 0 else if v = 1 then fsum σ (allS n) 2 n else if v = 2 then fsum σ (allS n) 1 n else if v = 3 then σ 5 else if v = 4 then σ 2 else if v = 5 then σ 3 else if v = 6 then σ 1 else if v = 7 then wt else if v = 8 then tp else if v = 9 then σ 4 else -1000000001
set_option maxRecDepth 100000 in
set_option maxHeartbeats 4000000 in
theorem M_count {x : pX} {d : Nat} {S : pS} {m : Nat} {as : Nat → Nat} {A : Nat → Nat → Int32} {F : Nat → Int32} {Q : Int32 → pS → Prop} (hM : MF S m as) {n nt np : Nat} {v : Int32} (hI : MI (A 288) n nt np) (h : Q (o_count (A 288) n (F 316) (F 301) v) (mP S m as A F)) : PI x (d + 4) M_X9_count [.ref m, .int v] (mP S m as A F) Q := by
  have hn10 := hI.1.2
  unfold o_count at h
  refine PM_of (by decide +kernel) (Nat.le_of_ble_eq_true rfl) ?_
  show V x (d + 4) M_X9_count (qi Q) (0, 0) 0 [(0, .ref m), (1, .int v)] [] (mP S m as A F)
  refine V_iln (pc := 0) dX9_count_0 rfl rfl ?_
  refine V_tab (pc := 1) (t := 120) [56, 63, 69, 75, 82, 89, 96, 103, 108, 113] dX9_count_1 (by decide) (by decide) (by decide) (fun i1 q1 hq1 he1 => ?_) (fun ho1 => ?_)
  · match i1, hq1, he1 with
    | 0, hq, he => 
      cases hq
      have e1 : v = (0 : Int32) := Int32.toInt_inj.mp (by rw [he]; decide)
      rw [e1, if_pos rfl] at h
      refine V_aln (pc := 56) dX9_count_56 rfl rfl ?_
      refine M_gr (pc := 57) hM 0 288 dX9_count_57 (FL_X9_7 rfl) rfl rfl (by decide) ?_
      refine V_iconst (pc := 60) (v := 0) dX9_count_60 (by decide) ?_
      refine M_ia (pc := 61) hM 288 0 dX9_count_61 (by decide) (by decide) (by simp only [fa_lit, nI_add, pk_mul]) (by show (_ : Nat) < 3154; omega) ?_
      refine V_iret (pc := 62) dX9_count_62 rfl rfl ?_
      exact h
    | 1, hq, he => 
      cases hq
      have e1 : v = (1 : Int32) := Int32.toInt_inj.mp (by rw [he]; decide)
      rw [e1, if_neg (by decide), if_pos rfl] at h
      refine V_aln (pc := 63) dX9_count_63 rfl rfl ?_
      refine V_iconst (pc := 64) (v := 2) dX9_count_64 (by decide) ?_
      refine V_cVi0 (pc := 65) (jc_X9_193 dX9_count_65 rfl) rfl rfl (Nat.le_of_ble_eq_true rfl) (mF_k hM) ?_
      refine m_allOf hM hI.1.1 hn10 (j := 2) (by decide) ?_
      refine V_iret (pc := 68) dX9_count_68 rfl rfl ?_
      exact h
    | 2, hq, he => 
      cases hq
      have e1 : v = (2 : Int32) := Int32.toInt_inj.mp (by rw [he]; decide)
      rw [e1, if_neg (by decide), if_neg (by decide), if_pos rfl] at h
      refine V_aln (pc := 69) dX9_count_69 rfl rfl ?_
      refine V_iconst (pc := 70) (v := 1) dX9_count_70 (by decide) ?_
      refine V_cVi0 (pc := 71) (jc_X9_193 dX9_count_71 rfl) rfl rfl (Nat.le_of_ble_eq_true rfl) (mF_k hM) ?_
      refine m_allOf hM hI.1.1 hn10 (j := 1) (by decide) ?_
      refine V_iret (pc := 74) dX9_count_74 rfl rfl ?_
      exact h
    | 3, hq, he => 
      cases hq
      have e1 : v = (3 : Int32) := Int32.toInt_inj.mp (by rw [he]; decide)
      rw [e1, if_neg (by decide), if_neg (by decide), if_neg (by decide), if_pos rfl] at h
      refine V_aln (pc := 75) dX9_count_75 rfl rfl ?_
      refine M_gr (pc := 76) hM 0 288 dX9_count_76 (FL_X9_7 rfl) rfl rfl (by decide) ?_
      refine V_iconst (pc := 79) (v := 5) dX9_count_79 (by decide) ?_
      refine M_ia (pc := 80) hM 288 5 dX9_count_80 (by decide) (by decide) (by simp only [fa_lit, nI_add, pk_mul]) (by show (_ : Nat) < 3154; omega) ?_
      refine V_iret (pc := 81) dX9_count_81 rfl rfl ?_
      exact h
    | 4, hq, he => 
      cases hq
      have e1 : v = (4 : Int32) := Int32.toInt_inj.mp (by rw [he]; decide)
      rw [e1, if_neg (by decide), if_neg (by decide), if_neg (by decide), if_neg (by decide), if_pos rfl] at h
      refine V_aln (pc := 82) dX9_count_82 rfl rfl ?_
      refine M_gr (pc := 83) hM 0 288 dX9_count_83 (FL_X9_7 rfl) rfl rfl (by decide) ?_
      refine V_iconst (pc := 86) (v := 2) dX9_count_86 (by decide) ?_
      refine M_ia (pc := 87) hM 288 2 dX9_count_87 (by decide) (by decide) (by simp only [fa_lit, nI_add, pk_mul]) (by show (_ : Nat) < 3154; omega) ?_
      refine V_iret (pc := 88) dX9_count_88 rfl rfl ?_
      exact h
    | 5, hq, he => 
      cases hq
      have e1 : v = (5 : Int32) := Int32.toInt_inj.mp (by rw [he]; decide)
      rw [e1, if_neg (by decide), if_neg (by decide), if_neg (by decide), if_neg (by decide), if_neg (by decide), if_pos rfl] at h
      refine V_aln (pc := 89) dX9_count_89 rfl rfl ?_
      refine M_gr (pc := 90) hM 0 288 dX9_count_90 (FL_X9_7 rfl) rfl rfl (by decide) ?_
      refine V_iconst (pc := 93) (v := 3) dX9_count_93 (by decide) ?_
      refine M_ia (pc := 94) hM 288 3 dX9_count_94 (by decide) (by decide) (by simp only [fa_lit, nI_add, pk_mul]) (by show (_ : Nat) < 3154; omega) ?_
      refine V_iret (pc := 95) dX9_count_95 rfl rfl ?_
      exact h
    | 6, hq, he => 
      cases hq
      have e1 : v = (6 : Int32) := Int32.toInt_inj.mp (by rw [he]; decide)
      rw [e1, if_neg (by decide), if_neg (by decide), if_neg (by decide), if_neg (by decide), if_neg (by decide), if_neg (by decide), if_pos rfl] at h
      refine V_aln (pc := 96) dX9_count_96 rfl rfl ?_
      refine M_gr (pc := 97) hM 0 288 dX9_count_97 (FL_X9_7 rfl) rfl rfl (by decide) ?_
      refine V_iconst (pc := 100) (v := 1) dX9_count_100 (by decide) ?_
      refine M_ia (pc := 101) hM 288 1 dX9_count_101 (by decide) (by decide) (by simp only [fa_lit, nI_add, pk_mul]) (by show (_ : Nat) < 3154; omega) ?_
      refine V_iret (pc := 102) dX9_count_102 rfl rfl ?_
      exact h
    | 7, hq, he => 
      cases hq
      have e1 : v = (7 : Int32) := Int32.toInt_inj.mp (by rw [he]; decide)
      rw [e1, if_neg (by decide), if_neg (by decide), if_neg (by decide), if_neg (by decide), if_neg (by decide), if_neg (by decide), if_neg (by decide), if_pos rfl] at h
      refine V_aln (pc := 103) dX9_count_103 rfl rfl ?_
      refine M_gi (pc := 104) hM 28 316 dX9_count_104 (FL_X9_314 rfl) rfl rfl ?_
      refine V_iret (pc := 107) dX9_count_107 rfl rfl ?_
      exact h
    | 8, hq, he => 
      cases hq
      have e1 : v = (8 : Int32) := Int32.toInt_inj.mp (by rw [he]; decide)
      rw [e1, if_neg (by decide), if_neg (by decide), if_neg (by decide), if_neg (by decide), if_neg (by decide), if_neg (by decide), if_neg (by decide), if_neg (by decide), if_pos rfl] at h
      refine V_aln (pc := 108) dX9_count_108 rfl rfl ?_
      refine M_gi (pc := 109) hM 13 301 dX9_count_109 (FL_X9_199 rfl) rfl rfl ?_
      refine V_iret (pc := 112) dX9_count_112 rfl rfl ?_
      exact h
    | 9, hq, he => 
      cases hq
      have e1 : v = (9 : Int32) := Int32.toInt_inj.mp (by rw [he]; decide)
      rw [e1, if_neg (by decide), if_neg (by decide), if_neg (by decide), if_neg (by decide), if_neg (by decide), if_neg (by decide), if_neg (by decide), if_neg (by decide), if_neg (by decide), if_pos rfl] at h
      refine V_aln (pc := 113) dX9_count_113 rfl rfl ?_
      refine M_gr (pc := 114) hM 0 288 dX9_count_114 (FL_X9_7 rfl) rfl rfl (by decide) ?_
      refine V_iconst (pc := 117) (v := 4) dX9_count_117 (by decide) ?_
      refine M_ia (pc := 118) hM 288 4 dX9_count_118 (by decide) (by decide) (by simp only [fa_lit, nI_add, pk_mul]) (by show (_ : Nat) < 3154; omega) ?_
      refine V_iret (pc := 119) dX9_count_119 rfl rfl ?_
      exact h
    | n + 10, hq, _ => simp at hq
  · have ho1 : (v).toInt < 0 ∨ 10 ≤ (v).toInt := by have q := ho1; simp only [List.length_cons, List.length_nil] at q; omega
    rw [if_neg (fun q => by rw [q] at ho1; revert ho1; decide), if_neg (fun q => by rw [q] at ho1; revert ho1; decide), if_neg (fun q => by rw [q] at ho1; revert ho1; decide), if_neg (fun q => by rw [q] at ho1; revert ho1; decide), if_neg (fun q => by rw [q] at ho1; revert ho1; decide), if_neg (fun q => by rw [q] at ho1; revert ho1; decide), if_neg (fun q => by rw [q] at ho1; revert ho1; decide), if_neg (fun q => by rw [q] at ho1; revert ho1; decide), if_neg (fun q => by rw [q] at ho1; revert ho1; decide), if_neg (fun q => by rw [q] at ho1; revert ho1; decide)] at h
    refine V_ldc (pc := 120) dX9_count_120 (KC_X9_82 rfl) ?_
    refine V_iret (pc := 122) dX9_count_122 rfl rfl ?_
    exact h
def o_textTold (σ : Nat → Int32) (nt : Nat) (t v : Int32) : Int32 := if 0 ≤ t.toInt ∧ t.toInt < nt ∧ 0 ≤ v.toInt ∧ v.toInt ≤ 1 then σ (154 + 200 * t.toNatClampNeg + v.toNatClampNeg) else -1000000001
def o_why (σ : Nat → Int32) (nt : Nat) (k : Int32) : Int32 := if 0 ≤ k.toInt ∧ k.toInt ≤ 2 then (if fcnt σ k nt < 0 then -1000000005 else fcnt σ k nt) else -1000000001
def o_trim (c : Nat) (v : Int32) : Int32 × Nat := if 0 ≤ v.toInt ∧ v.toInt ≤ c then (v, v.toNatClampNeg) else (-1000000001, c)
set_option maxRecDepth 100000 in
set_option maxHeartbeats 4000000 in
theorem M_textTold {x : pX} {d : Nat} {S : pS} {m : Nat} {as : Nat → Nat} {A : Nat → Nat → Int32} {F : Nat → Int32} {Q : Int32 → pS → Prop} (hM : MF S m as) {n nt np : Nat} {t v : Int32} (hI : MI (A 288) n nt np) (h : Q (o_textTold (A 288) nt t v) (mP S m as A F)) : PI x (d + 3) M_X9_textTold [.ref m, .int t, .int v] (mP S m as A F) Q := by
  have hn14 := hI.2.1.2
  unfold o_textTold at h
  refine PM_of (by decide +kernel) (Nat.le_of_ble_eq_true rfl) ?_
  show V x (d + 3) M_X9_textTold (qi Q) (0, 0) 0 [(0, .ref m), (1, .int t), (2, .int v)] [] (mP S m as A F)
  refine V_aln (pc := 0) dX9_textTold_0 rfl rfl ?_
  refine V_iln (pc := 1) dX9_textTold_1 rfl rfl ?_
  refine V_cVi0 (pc := 2) (jc_X9_289 dX9_textTold_2 rfl) rfl rfl (Nat.le_of_ble_eq_true rfl) (mF_k hM) ?_
  refine m_isText hM hI.2.1.1 (by omega) (fun i hi ei ti ci => ?_) (fun ni => ?_)
  · subst ei
    refine V_eq (pc := 5) (t := 18) dX9_textTold_5 (by decide) (fun h => absurd h (by decide)) (fun _ => ?_)
    refine V_iln (pc := 8) dX9_textTold_8 rfl rfl ?_
    refine V_i2l (pc := 9) dX9_textTold_9 ?_
    refine V_lconst (pc := 10) (v := 0) dX9_textTold_10 (by decide) ?_
    refine V_lconst (pc := 11) (v := 1) dX9_textTold_11 (by decide) ?_
    refine V_cSi0 (pc := 12) (jc_X9_62 dX9_textTold_12 rfl) rfl rfl (Nat.le_of_ble_eq_true rfl) ?_
    refine m_isIn (l := 0) 0 1 (by decide) (by decide) (fun a1 a2 => ?_) (fun a0 => ?_)
    · obtain ⟨q, hq, f1, f2, f3⟩ := idx_of (w := v) (n := 2) (by decide) a1 (by omega)
      subst f1
      rw [if_pos (by omega), ci, f3] at h
      refine V_ne (pc := 15) (t := 21) dX9_textTold_15 (by decide) (fun _ => ?_) (fun h => absurd h (by decide))
      refine V_aln (pc := 21) dX9_textTold_21 rfl rfl ?_
      refine M_gr (pc := 22) hM 0 288 dX9_textTold_22 (FL_X9_7 rfl) rfl rfl (by decide) ?_
      refine V_aln (pc := 25) dX9_textTold_25 rfl rfl ?_
      refine V_iln (pc := 26) dX9_textTold_26 rfl rfl ?_
      refine V_cVi0 (pc := 27) (jc_X9_280 dX9_textTold_27 rfl) rfl rfl (Nat.le_of_ble_eq_true rfl) (mF_k hM) ?_
      refine m_textAt ?_
      refine V_iln (pc := 30) dX9_textTold_30 rfl rfl ?_
      refine V_iadd (pc := 31) dX9_textTold_31 ?_
      refine M_ia (pc := 32) hM 288 ((154 + 200 * i) + q) dX9_textTold_32 (by decide) (by decide) (by simp only [fa_lit, nI_add, pk_mul]) (by show (_ : Nat) < 3154; omega) ?_
      refine V_iret (pc := 33) dX9_textTold_33 rfl rfl ?_
      exact h
    · refine V_ne (pc := 15) (t := 21) dX9_textTold_15 (by decide) (fun h => absurd h (by decide)) (fun _ => ?_)
      refine V_ldc (pc := 18) dX9_textTold_18 (KC_X9_82 rfl) ?_
      refine V_iret (pc := 20) dX9_textTold_20 rfl rfl ?_
      rw [if_neg (by omega)] at h
      exact h
  · refine V_eq (pc := 5) (t := 18) dX9_textTold_5 (by decide) (fun _ => ?_) (fun h => absurd h (by decide))
    refine V_ldc (pc := 18) dX9_textTold_18 (KC_X9_82 rfl) ?_
    refine V_iret (pc := 20) dX9_textTold_20 rfl rfl ?_
    rw [if_neg (by omega)] at h
    exact h
set_option maxRecDepth 100000 in
set_option maxHeartbeats 4000000 in
theorem M_why {x : pX} {d : Nat} {S : pS} {m : Nat} {as : Nat → Nat} {A : Nat → Nat → Int32} {F : Nat → Int32} {Q : Int32 → pS → Prop} (hM : MF S m as) {n nt np : Nat} {k : Int32} (hI : MI (A 288) n nt np) (h : Q (o_why (A 288) nt k) (mP S m as A F)) : PI x (d + 3) M_X9_why [.ref m, .int k] (mP S m as A F) Q := by
  unfold o_why at h
  refine PM_of (by decide +kernel) (Nat.le_of_ble_eq_true rfl) ?_
  show V x (d + 3) M_X9_why (qi Q) (0, 0) 0 [(0, .ref m), (1, .int k)] [] (mP S m as A F)
  refine V_iln (pc := 0) dX9_why_0 rfl rfl ?_
  refine V_i2l (pc := 1) dX9_why_1 ?_
  refine V_lconst (pc := 2) (v := 0) dX9_why_2 (by decide) ?_
  refine V_ldc2 (pc := 3) dX9_why_3 (KC_X9_292 rfl) ?_
  refine V_cSi0 (pc := 6) (jc_X9_62 dX9_why_6 rfl) rfl rfl (Nat.le_of_ble_eq_true rfl) ?_
  refine m_isIn (l := 0) 0 2 (by decide) (by decide) (fun a1 a2 => ?_) (fun a0 => ?_)
  · rw [if_pos (by omega)] at h
    refine V_eq (pc := 9) (t := 23) dX9_why_9 (by decide) (fun h => absurd h (by decide)) (fun _ => ?_)
    refine V_aln (pc := 12) dX9_why_12 rfl rfl ?_
    refine V_iln (pc := 13) dX9_why_13 rfl rfl ?_
    refine V_cVi0 (pc := 14) (jc_X9_88 dX9_why_14 rfl) rfl rfl (Nat.le_of_ble_eq_true rfl) (mF_k hM) ?_
    refine m_counts hM hI.2.1.1 hI.2.1.2 ?_
    refine V_cSi0 (pc := 17) (jc_X9_188 dX9_why_17 rfl) rfl rfl (Nat.le_of_ble_eq_true rfl) ?_
    refine m_orNone ?_
    refine V_goto (pc := 20) (t := 25) dX9_why_20 (by decide) ?_
    refine V_iret (pc := 25) dX9_why_25 rfl rfl ?_
    exact h
  · rw [if_neg (by omega)] at h
    refine V_eq (pc := 9) (t := 23) dX9_why_9 (by decide) (fun _ => ?_) (fun h => absurd h (by decide))
    refine V_ldc (pc := 23) dX9_why_23 (KC_X9_82 rfl) ?_
    refine V_iret (pc := 25) dX9_why_25 rfl rfl ?_
    exact h
set_option maxRecDepth 100000 in
set_option maxHeartbeats 4000000 in
theorem M_trim {x : pX} {d : Nat} {S : pS} {m : Nat} {as : Nat → Nat} {A : Nat → Nat → Int32} {F : Nat → Int32} {Q : Int32 → pS → Prop} (hM : MF S m as) {c : Nat} {v : Int32} (hc : F 301 = nI c) (hc96 : c ≤ 96) (h : Q (o_trim c v).1 (mP S m as A (va_up F 301 (nI (o_trim c v).2)))) : PI x (d + 2) M_X9_trim [.ref m, .int v] (mP S m as A F) Q := by
  unfold o_trim at h
  refine PM_of (by decide +kernel) (Nat.le_of_ble_eq_true rfl) ?_
  show V x (d + 2) M_X9_trim (qi Q) (0, 0) 0 [(0, .ref m), (1, .int v)] [] (mP S m as A F)
  refine V_iln (pc := 0) dX9_trim_0 rfl rfl ?_
  refine V_i2l (pc := 1) dX9_trim_1 ?_
  refine V_lconst (pc := 2) (v := 0) dX9_trim_2 (by decide) ?_
  refine V_aln (pc := 3) dX9_trim_3 rfl rfl ?_
  refine M_gi (pc := 4) hM 13 301 dX9_trim_4 (FL_X9_199 rfl) rfl rfl ?_
  refine V_i2l (pc := 7) dX9_trim_7 ?_
  refine V_cSi0 (pc := 8) (jc_X9_62 dX9_trim_8 rfl) rfl rfl (Nat.le_of_ble_eq_true rfl) ?_
  refine m_isIn (l := 0) 0 c (by decide) (by rw [i64_toInt, hc]; exact nI_toInt (by omega)) (fun a1 a2 => ?_) (fun a0 => ?_)
  · obtain ⟨q, hq, f1, f2, f3⟩ := idx_of (w := v) (n := 97) (by decide) a1 (by omega)
    subst f1
    rw [if_pos (by omega)] at h
    dsimp only at h
    rw [f3] at h
    refine V_ne (pc := 11) (t := 17) dX9_trim_11 (by decide) (fun _ => ?_) (fun h => absurd h (by decide))
    refine V_aln (pc := 17) dX9_trim_17 rfl rfl ?_
    refine V_iln (pc := 18) dX9_trim_18 rfl rfl ?_
    refine M_pi (pc := 19) hM 13 301 dX9_trim_19 (FL_X9_199 rfl) rfl rfl rfl ?_
    refine V_iln (pc := 22) dX9_trim_22 rfl rfl ?_
    refine V_iret (pc := 23) dX9_trim_23 rfl rfl ?_
    exact h
  · rw [if_neg (by omega)] at h
    dsimp only at h
    rw [← hc, vu_self] at h
    refine V_ne (pc := 11) (t := 17) dX9_trim_11 (by decide) (fun h => absurd h (by decide)) (fun _ => ?_)
    refine V_ldc (pc := 14) dX9_trim_14 (KC_X9_82 rfl) ?_
    refine V_iret (pc := 16) dX9_trim_16 rfl rfl ?_
    exact h
