/-! ===== the class: a World: arms, sets, pages ===== -/
theorem and_one (y : Int32) : y &&& 1 = 0 ∨ y &&& 1 = 1 := by
  have h : (y &&& 1).toBitVec = y.toBitVec &&& 1#32 := rfl
  rw [BitVec.and_one_eq_setWidth_ofBool_getLsbD] at h
  cases hb : y.toBitVec.getLsbD 0 with
  | false => rw [hb] at h; exact Or.inl (Int32.toBitVec_inj.mp (h.trans (by decide)))
  | true => rw [hb] at h; exact Or.inr (Int32.toBitVec_inj.mp (h.trans (by decide)))
theorem sb_mul (set : Int32) (k : Nat) (g : Int32) : sb set k * g = if sb set k = 1 then g else 0 := by
  rcases and_one (set >>> (nI k &&& 31)) with h | h
  · have e : sb set k = 0 := h
    rw [e, if_neg (by decide), Int32.zero_mul]
  · have e : sb set k = 1 := h
    rw [e, if_pos rfl, Int32.one_mul]
theorem nI_neg {k : Nat} (h : k < 2 ^ 31) : ¬ nI k < 0 := nI_pos h
set_option maxRecDepth 100000 in
set_option maxHeartbeats 4000000 in
theorem w_armAt {x : pX} {d : Nat} {S : pS} {Q : Int32 → pS → Prop} {ad : Nat → Nat} {σ : Nat → Int32} (hS : WS S ad) (hW : WR S ad σ) {b s : Nat} (hb : b < 4) (hs : s < 2) (h : Q (σ (6 + 2 * b + s)) S) : PI x (d + 1) M_X7_armAt [.ref ((ad 0)), .int (nI b), .int (nI s)] S Q := by
  refine PM_of (by decide +kernel) (Nat.le_of_ble_eq_true rfl) ?_
  show V x (d + 1) M_X7_armAt (qi Q) (0, 0) 0 [(0, .ref ((ad 0))), (1, .int (nI b)), (2, .int (nI s))] [] S
  refine V_iconst (pc := 0) (v := 2) dX7_armAt_0 (by decide) ?_
  refine V_iln (pc := 1) dX7_armAt_1 rfl rfl ?_
  refine V_imul (pc := 2) dX7_armAt_2 ?_
  refine V_iln (pc := 3) dX7_armAt_3 rfl rfl ?_
  refine V_iadd (pc := 4) dX7_armAt_4 ?_
  refine V_isn (pc := 5) (fun y => [(0, .ref ((ad 0))), (1, .int (nI b)), (2, .int (nI s)), (3, .int y)]) dX7_armAt_5 rfl (by decide) (fun _ => rfl) (fun y5 ey5 => ?_)
  obtain rfl : y5 = nI (2 * b + s) := by rw [ey5]; rw [show (2 : Int32) = nI 2 from rfl, pk_mul, nI_add]
  refine V_iln (pc := 6) dX7_armAt_6 rfl rfl ?_
  refine V_lt (pc := 7) (t := 28) dX7_armAt_7 (by decide) (fun h7 => ?_) (fun h7 => ?_)
  · exact absurd h7 (nI_neg (by omega))
  · refine V_iln (pc := 10) dX7_armAt_10 rfl rfl ?_
    refine V_aln (pc := 11) dX7_armAt_11 rfl rfl ?_
    refine V_gr (pc := 12) 7 2 226 dX7_armAt_12 (FL_X7_17 rfl) rfl rfl (hS.k 0 (by decide) rfl) hS.2.2.1.2.1 ?_
    refine V_len (pc := 15) (N := 8) dX7_armAt_15 (hS.k 2 (by decide) rfl) (hS.2.1 2 (by decide)) ?_
    refine V_cge (pc := 16) (t := 28) dX7_armAt_16 (by decide) (fun h16 => ?_) (fun h16 => ?_)
    · exact absurd h16 (nI_ge (by omega) (by decide))
    · refine V_aln (pc := 19) dX7_armAt_19 rfl rfl ?_
      refine V_gr (pc := 20) 7 2 226 dX7_armAt_20 (FL_X7_17 rfl) rfl rfl (hS.k 0 (by decide) rfl) hS.2.2.1.2.1 ?_
      refine V_iln (pc := 23) dX7_armAt_23 rfl rfl ?_
      refine V_iae (pc := 24) (N := 8) (2 * b + s) dX7_armAt_24 (hS.k 2 (by decide) rfl) (hS.2.1 2 (by decide)) (by decide) rfl (by show (_ : Nat) < 8; omega) (hW.2.1 (2 * b + s) (by omega)) ?_
      refine V_goto (pc := 25) (t := 30) dX7_armAt_25 (by decide) ?_
      refine V_iret (pc := 30) dX7_armAt_30 rfl rfl ?_
      rw [show 6 + 2 * b + s = 6 + (2 * b + s) by omega] at h
      exact h
set_option maxRecDepth 100000 in
set_option maxHeartbeats 4000000 in
theorem w_bendArm {x : pX} {d : Nat} {S : pS} {Q : pS → Prop} {ad : Nat → Nat} {σ : Nat → Int32} (hS : WS S ad) (hW : WR S ad σ) {b s : Nat} {v : Int32} (hb : b < 4) (hs : s < 2) (h : ∀ S2, wfr ad S S2 → WR S2 ad (upd σ (6 + 2 * b + s) v) → Q S2) : PV x (d + 1) M_X7_bendArm [.ref ((ad 0)), .int (nI b), .int (nI s), .int v] S Q := by
  refine PM_of (by decide +kernel) (Nat.le_of_ble_eq_true rfl) ?_
  show V x (d + 1) M_X7_bendArm (qv Q) (0, 0) 0 [(0, .ref ((ad 0))), (1, .int (nI b)), (2, .int (nI s)), (3, .int v)] [] S
  refine V_iconst (pc := 0) (v := 2) dX7_bendArm_0 (by decide) ?_
  refine V_iln (pc := 1) dX7_bendArm_1 rfl rfl ?_
  refine V_imul (pc := 2) dX7_bendArm_2 ?_
  refine V_iln (pc := 3) dX7_bendArm_3 rfl rfl ?_
  refine V_iadd (pc := 4) dX7_bendArm_4 ?_
  refine V_is (pc := 5) (fun y => [(0, .ref ((ad 0))), (1, .int (nI b)), (2, .int (nI s)), (3, .int v), (4, .int y)]) dX7_bendArm_5 (by decide) (fun _ => rfl) (fun y5 ey5 => ?_)
  obtain rfl : y5 = nI (2 * b + s) := by rw [ey5]; rw [show (2 : Int32) = nI 2 from rfl, pk_mul, nI_add]
  refine V_il (pc := 7) dX7_bendArm_7 rfl ?_
  refine V_lt (pc := 9) (t := 30) dX7_bendArm_9 (by decide) (fun h9 => ?_) (fun h9 => ?_)
  · exact absurd h9 (nI_neg (by omega))
  · refine V_il (pc := 12) dX7_bendArm_12 rfl ?_
    refine V_aln (pc := 14) dX7_bendArm_14 rfl rfl ?_
    refine V_gr (pc := 15) 7 2 226 dX7_bendArm_15 (FL_X7_17 rfl) rfl rfl (hS.k 0 (by decide) rfl) hS.2.2.1.2.1 ?_
    refine V_len (pc := 18) (N := 8) dX7_bendArm_18 (hS.k 2 (by decide) rfl) (hS.2.1 2 (by decide)) ?_
    refine V_cge (pc := 19) (t := 30) dX7_bendArm_19 (by decide) (fun h19 => ?_) (fun h19 => ?_)
    · exact absurd h19 (nI_ge (by omega) (by decide))
    · refine V_aln (pc := 22) dX7_bendArm_22 rfl rfl ?_
      refine V_gr (pc := 23) 7 2 226 dX7_bendArm_23 (FL_X7_17 rfl) rfl rfl (hS.k 0 (by decide) rfl) hS.2.2.1.2.1 ?_
      refine V_il (pc := 26) dX7_bendArm_26 rfl ?_
      refine V_iln (pc := 28) dX7_bendArm_28 rfl rfl ?_
      refine V_ias (pc := 29) (N := 8) (2 * b + s) dX7_bendArm_29 (hS.k 2 (by decide) rfl) (hS.2.1 2 (by decide)) (by decide) rfl (by show (_ : Nat) < 8; omega) ?_
      have hW29 := hW.A hS (j := (2 * b + s)) (by omega) v
      have hF29 := (wfr.rf (ad := ad) (P := S)).Xu (i := 2) (by decide) (by decide) (by decide) (2 * b + s) v
      refine V_ret (pc := 30) dX7_bendArm_30 rfl ?_
      rw [show 6 + 2 * b + s = 6 + (2 * b + s) by omega] at h
      exact h _ hF29 hW29
set_option maxRecDepth 100000 in
set_option maxHeartbeats 4000000 in
theorem w_setCount {x : pX} {d : Nat} {S : pS} {Q : Int32 → pS → Prop} {ad : Nat → Nat} {σ : Nat → Int32} (hS : WS S ad) (hW : WR S ad σ) {n : Nat} (hn : σ 0 = nI n) (hn10 : n ≤ 10) (h : Q ((1 : Int32) <<< (nI n &&& 31)) S) : PI x (d + 1) M_X7_setCount [.ref ((ad 0))] S Q := by
  refine PM_of (by decide +kernel) (Nat.le_of_ble_eq_true rfl) ?_
  show V x (d + 1) M_X7_setCount (qi Q) (0, 0) 0 [(0, .ref ((ad 0)))] [] S
  refine V_iconst (pc := 0) (v := 1) dX7_setCount_0 (by decide) ?_
  refine V_aln (pc := 1) dX7_setCount_1 rfl rfl ?_
  refine V_gie (pc := 2) 7 1 225 dX7_setCount_2 (FL_X7_56 rfl) rfl rfl (hS.k 0 (by decide) rfl) (hW.1 225 0 0 (by decide)) ?_
  refine V_ishl (pc := 5) dX7_setCount_5 ?_
  refine V_iret (pc := 6) dX7_setCount_6 rfl rfl ?_
  rw [hn]; exact h
set_option maxRecDepth 100000 in
set_option maxHeartbeats 4000000 in
theorem w_allSet {x : pX} {d : Nat} {S : pS} {Q : Int32 → pS → Prop} {ad : Nat → Nat} {σ : Nat → Int32} (hS : WS S ad) (hW : WR S ad σ) {n : Nat} (hn : σ 0 = nI n) (hn10 : n ≤ 10) (h : Q (allS n) S) : PI x (d + 2) M_X7_allSet [.ref ((ad 0))] S Q := by
  refine PM_of (by decide +kernel) (Nat.le_of_ble_eq_true rfl) ?_
  show V x (d + 2) M_X7_allSet (qi Q) (0, 0) 0 [(0, .ref ((ad 0)))] [] S
  refine V_aln (pc := 0) dX7_allSet_0 rfl rfl ?_
  refine V_cVi0 (pc := 1) (jc_X7_99 dX7_allSet_1 rfl) rfl rfl (Nat.le_of_ble_eq_true rfl) (hS.k 0 (by decide) rfl) ?_
  refine w_setCount hS hW hn hn10 ?_
  refine V_iconst (pc := 4) (v := 1) dX7_allSet_4 (by decide) ?_
  refine V_isub (pc := 5) dX7_allSet_5 ?_
  refine V_iret (pc := 6) dX7_allSet_6 rfl rfl ?_
  exact h
theorem allS_toInt {n : Nat} (h : n ≤ 10) : (allS n).toInt = ((2 ^ n : Nat) : Int) - 1 := by
  match n, h with
  | 0, _ => decide
  | 1, _ => decide
  | 2, _ => decide
  | 3, _ => decide
  | 4, _ => decide
  | 5, _ => decide
  | 6, _ => decide
  | 7, _ => decide
  | 8, _ => decide
  | 9, _ => decide
  | 10, _ => decide
  | n + 11, h => exact absurd h (by omega)
set_option maxRecDepth 100000 in
set_option maxHeartbeats 4000000 in
theorem w_isSet {x : pX} {d : Nat} {S : pS} {Q : Int32 → pS → Prop} {ad : Nat → Nat} {σ : Nat → Int32} (hS : WS S ad) (hW : WR S ad σ) {n : Nat} (hn : σ 0 = nI n) (hn10 : n ≤ 10) {s : Int32} (h1 : 0 ≤ s.toInt → s.toInt < ((2 ^ n : Nat) : Int) → Q 1 S) (h0 : ¬ (0 ≤ s.toInt ∧ s.toInt < ((2 ^ n : Nat) : Int)) → Q 0 S) : PI x (d + 3) M_X7_isSet [.ref ((ad 0)), .int s] S Q := by
  refine PM_of (by decide +kernel) (Nat.le_of_ble_eq_true rfl) ?_
  show V x (d + 3) M_X7_isSet (qi Q) (0, 0) 0 [(0, .ref ((ad 0))), (1, .int s)] [] S
  refine V_iln (pc := 0) dX7_isSet_0 rfl rfl ?_
  refine V_iconst (pc := 1) (v := 0) dX7_isSet_1 (by decide) ?_
  refine V_aln (pc := 2) dX7_isSet_2 rfl rfl ?_
  refine V_cVi0 (pc := 3) (jc_X7_102 dX7_isSet_3 rfl) rfl rfl (Nat.le_of_ble_eq_true rfl) (hS.k 0 (by decide) rfl) ?_
  refine w_allSet hS hW hn hn10 ?_
  refine V_cSi0 (pc := 6) (jc_X7_105 dX7_isSet_6 rfl) rfl rfl (Nat.le_of_ble_eq_true rfl) ?_
  refine c_within 0 (((2 ^ n : Nat) : Int) - 1) (by decide) (allS_toInt hn10) (fun a1 a2 => ?_) (fun a0 => ?_)
  · refine V_iret (pc := 9) dX7_isSet_9 rfl rfl ?_
    first | exact h1 a1 (by omega) | exact h0 (by omega)
  · refine V_iret (pc := 9) dX7_isSet_9 rfl rfl ?_
    first | exact h1 a1 (by omega) | exact h0 (by omega)
set_option maxRecDepth 100000 in
set_option maxHeartbeats 4000000 in
theorem w_grainsOf_L {x : pX} {d : Nat} {S : pS} {b : Nat × Nat} {Q : Int32 → pS → Prop} {ad : Nat → Nat} {σ : Nat → Int32} (hS : WS S ad) (hW : WR S ad σ) {n : Nat} (hn : σ 0 = nI n) (hn10 : n ≤ 10) {set : Int32} (h : Q (fsum σ set 2 n) S) : ∀ (c k : Nat), k + c = n → V x (d + 1) M_X7_grainsOf (qi Q) b 4 [(0, .ref ((ad 0))), (1, .int set), (2, .int (fsum σ set 2 k)), (3, .int (nI k))] [] S := by
  intro c
  induction c with
  | zero =>
    intro k hk 
    refine V_iln (pc := 4) dX7_grainsOf_4 rfl rfl ?_
    refine V_aln (pc := 5) dX7_grainsOf_5 rfl rfl ?_
    refine V_gie (pc := 6) 7 1 225 dX7_grainsOf_6 (FL_X7_56 rfl) rfl rfl (hS.k 0 (by decide) rfl) (hW.1 225 0 0 (by decide)) ?_
    refine V_cge (pc := 9) (t := 36) dX7_grainsOf_9 (by decide) (fun h9 => ?_) (fun h9 => ?_)
    · refine V_iln (pc := 36) dX7_grainsOf_36 rfl rfl ?_
      refine V_iret (pc := 37) dX7_grainsOf_37 rfl rfl ?_
      obtain rfl : k = n := by omega
      exact h
    · exact absurd (by rw [hn]; exact nI_le (by omega) (by omega)) h9
  | succ c ih =>
    intro k hk 
    refine V_iln (pc := 4) dX7_grainsOf_4 rfl rfl ?_
    refine V_aln (pc := 5) dX7_grainsOf_5 rfl rfl ?_
    refine V_gie (pc := 6) 7 1 225 dX7_grainsOf_6 (FL_X7_56 rfl) rfl rfl (hS.k 0 (by decide) rfl) (hW.1 225 0 0 (by decide)) ?_
    refine V_cge (pc := 9) (t := 36) dX7_grainsOf_9 (by decide) (fun h9 => ?_) (fun h9 => ?_)
    · exact absurd h9 (by rw [hn]; exact nI_ge (by omega) (by omega))
    · refine V_iln (pc := 12) dX7_grainsOf_12 rfl rfl ?_
      refine V_iln (pc := 13) dX7_grainsOf_13 rfl rfl ?_
      refine V_iln (pc := 14) dX7_grainsOf_14 rfl rfl ?_
      refine V_ishr (pc := 15) dX7_grainsOf_15 ?_
      refine V_iconst (pc := 16) (v := 1) dX7_grainsOf_16 (by decide) ?_
      refine V_iand (pc := 17) dX7_grainsOf_17 ?_
      refine V_aln (pc := 18) dX7_grainsOf_18 rfl rfl ?_
      refine V_gr (pc := 19) 7 0 224 dX7_grainsOf_19 (FL_X7_11 rfl) rfl rfl (hS.k 0 (by decide) rfl) hS.2.2.1.1 ?_
      refine V_iln (pc := 22) dX7_grainsOf_22 rfl rfl ?_
      refine V_aa (pc := 23) (N := 10) 14 k dX7_grainsOf_23 (by decide) (by decide) (hS.k 1 (by decide) rfl) (hS.2.1 1 (by decide)) (by decide) rfl (by show (_ : Nat) < 10; omega) (hS.2.2.2.1 k (by omega)) ?_
      refine V_gie (pc := 24) 6 2 194 dX7_grainsOf_24 (FL_X7_109 rfl) rfl rfl (hS.w (by omega)) (hW.1 194 (10 + k) (14 + 4 * k + 2) (by unfold cI; omega)) ?_
      refine V_imul (pc := 27) dX7_grainsOf_27 ?_
      refine V_iadd (pc := 28) dX7_grainsOf_28 ?_
      refine V_isn (pc := 29) (fun y => [(0, .ref ((ad 0))), (1, .int set), (2, .int y), (3, .int (nI k))]) dX7_grainsOf_29 rfl (by decide) (fun _ => rfl) (fun y29 ey29 => ?_)
      obtain rfl : y29 = fsum σ set 2 (k + 1) := by rw [ey29]; show _ + sb set k * _ = _ + _; rw [sb_mul]
      refine V_inc (pc := 30) (fun y => [(0, .ref ((ad 0))), (1, .int set), (2, .int (fsum σ set 2 (k + 1))), (3, .int y)]) (w := 1) dX7_grainsOf_30 (by decide) (by decide) rfl (fun _ => rfl) (fun y30 ey30 => ?_)
      obtain rfl : y30 = nI (k + 1) := by rw [ey30]; exact nI_1 _
      refine V_goto (pc := 33) (t := 4) dX7_grainsOf_33 (by decide) ?_
      exact ih (k + 1) (by omega)
set_option maxRecDepth 100000 in
set_option maxHeartbeats 4000000 in
theorem w_grainsOf {x : pX} {d : Nat} {S : pS} {Q : Int32 → pS → Prop} {ad : Nat → Nat} {σ : Nat → Int32} (hS : WS S ad) (hW : WR S ad σ) {n : Nat} (hn : σ 0 = nI n) (hn10 : n ≤ 10) {set : Int32} (h : Q (fsum σ set 2 n) S) : PI x (d + 1) M_X7_grainsOf [.ref ((ad 0)), .int set] S Q := by
  refine PM_of (by decide +kernel) (Nat.le_of_ble_eq_true rfl) ?_
  show V x (d + 1) M_X7_grainsOf (qi Q) (0, 0) 0 [(0, .ref ((ad 0))), (1, .int set)] [] S
  refine V_iconst (pc := 0) (v := 0) dX7_grainsOf_0 (by decide) ?_
  refine V_isn (pc := 1) (fun y => [(0, .ref ((ad 0))), (1, .int set), (2, .int y)]) dX7_grainsOf_1 rfl (by decide) (fun _ => rfl) (fun y1 ey1 => ?_)
  refine V_iconst (pc := 2) (v := 0) dX7_grainsOf_2 (by decide) ?_
  refine V_isn (pc := 3) (fun y => [(0, .ref ((ad 0))), (1, .int set), (2, .int y1), (3, .int y)]) dX7_grainsOf_3 rfl (by decide) (fun _ => rfl) (fun y3 ey3 => ?_)
  obtain rfl : y3 = nI 0 := ey3
  subst ey1
  exact w_grainsOf_L hS hW hn hn10 h n 0 (by omega)
set_option maxRecDepth 100000 in
set_option maxHeartbeats 4000000 in
theorem w_stampsOf_L {x : pX} {d : Nat} {S : pS} {b : Nat × Nat} {Q : Int32 → pS → Prop} {ad : Nat → Nat} {σ : Nat → Int32} (hS : WS S ad) (hW : WR S ad σ) {n : Nat} (hn : σ 0 = nI n) (hn10 : n ≤ 10) {set : Int32} (h : Q (fsum σ set 1 n) S) : ∀ (c k : Nat), k + c = n → V x (d + 1) M_X7_stampsOf (qi Q) b 4 [(0, .ref ((ad 0))), (1, .int set), (2, .int (fsum σ set 1 k)), (3, .int (nI k))] [] S := by
  intro c
  induction c with
  | zero =>
    intro k hk 
    refine V_iln (pc := 4) dX7_stampsOf_4 rfl rfl ?_
    refine V_aln (pc := 5) dX7_stampsOf_5 rfl rfl ?_
    refine V_gie (pc := 6) 7 1 225 dX7_stampsOf_6 (FL_X7_56 rfl) rfl rfl (hS.k 0 (by decide) rfl) (hW.1 225 0 0 (by decide)) ?_
    refine V_cge (pc := 9) (t := 36) dX7_stampsOf_9 (by decide) (fun h9 => ?_) (fun h9 => ?_)
    · refine V_iln (pc := 36) dX7_stampsOf_36 rfl rfl ?_
      refine V_iret (pc := 37) dX7_stampsOf_37 rfl rfl ?_
      obtain rfl : k = n := by omega
      exact h
    · exact absurd (by rw [hn]; exact nI_le (by omega) (by omega)) h9
  | succ c ih =>
    intro k hk 
    refine V_iln (pc := 4) dX7_stampsOf_4 rfl rfl ?_
    refine V_aln (pc := 5) dX7_stampsOf_5 rfl rfl ?_
    refine V_gie (pc := 6) 7 1 225 dX7_stampsOf_6 (FL_X7_56 rfl) rfl rfl (hS.k 0 (by decide) rfl) (hW.1 225 0 0 (by decide)) ?_
    refine V_cge (pc := 9) (t := 36) dX7_stampsOf_9 (by decide) (fun h9 => ?_) (fun h9 => ?_)
    · exact absurd h9 (by rw [hn]; exact nI_ge (by omega) (by omega))
    · refine V_iln (pc := 12) dX7_stampsOf_12 rfl rfl ?_
      refine V_iln (pc := 13) dX7_stampsOf_13 rfl rfl ?_
      refine V_iln (pc := 14) dX7_stampsOf_14 rfl rfl ?_
      refine V_ishr (pc := 15) dX7_stampsOf_15 ?_
      refine V_iconst (pc := 16) (v := 1) dX7_stampsOf_16 (by decide) ?_
      refine V_iand (pc := 17) dX7_stampsOf_17 ?_
      refine V_aln (pc := 18) dX7_stampsOf_18 rfl rfl ?_
      refine V_gr (pc := 19) 7 0 224 dX7_stampsOf_19 (FL_X7_11 rfl) rfl rfl (hS.k 0 (by decide) rfl) hS.2.2.1.1 ?_
      refine V_iln (pc := 22) dX7_stampsOf_22 rfl rfl ?_
      refine V_aa (pc := 23) (N := 10) 14 k dX7_stampsOf_23 (by decide) (by decide) (hS.k 1 (by decide) rfl) (hS.2.1 1 (by decide)) (by decide) rfl (by show (_ : Nat) < 10; omega) (hS.2.2.2.1 k (by omega)) ?_
      refine V_gie (pc := 24) 6 1 193 dX7_stampsOf_24 (FL_X7_112 rfl) rfl rfl (hS.w (by omega)) (hW.1 193 (10 + k) (14 + 4 * k + 1) (by unfold cI; omega)) ?_
      refine V_imul (pc := 27) dX7_stampsOf_27 ?_
      refine V_iadd (pc := 28) dX7_stampsOf_28 ?_
      refine V_isn (pc := 29) (fun y => [(0, .ref ((ad 0))), (1, .int set), (2, .int y), (3, .int (nI k))]) dX7_stampsOf_29 rfl (by decide) (fun _ => rfl) (fun y29 ey29 => ?_)
      obtain rfl : y29 = fsum σ set 1 (k + 1) := by rw [ey29]; show _ + sb set k * _ = _ + _; rw [sb_mul]
      refine V_inc (pc := 30) (fun y => [(0, .ref ((ad 0))), (1, .int set), (2, .int (fsum σ set 1 (k + 1))), (3, .int y)]) (w := 1) dX7_stampsOf_30 (by decide) (by decide) rfl (fun _ => rfl) (fun y30 ey30 => ?_)
      obtain rfl : y30 = nI (k + 1) := by rw [ey30]; exact nI_1 _
      refine V_goto (pc := 33) (t := 4) dX7_stampsOf_33 (by decide) ?_
      exact ih (k + 1) (by omega)
set_option maxRecDepth 100000 in
set_option maxHeartbeats 4000000 in
theorem w_stampsOf {x : pX} {d : Nat} {S : pS} {Q : Int32 → pS → Prop} {ad : Nat → Nat} {σ : Nat → Int32} (hS : WS S ad) (hW : WR S ad σ) {n : Nat} (hn : σ 0 = nI n) (hn10 : n ≤ 10) {set : Int32} (h : Q (fsum σ set 1 n) S) : PI x (d + 1) M_X7_stampsOf [.ref ((ad 0)), .int set] S Q := by
  refine PM_of (by decide +kernel) (Nat.le_of_ble_eq_true rfl) ?_
  show V x (d + 1) M_X7_stampsOf (qi Q) (0, 0) 0 [(0, .ref ((ad 0))), (1, .int set)] [] S
  refine V_iconst (pc := 0) (v := 0) dX7_stampsOf_0 (by decide) ?_
  refine V_isn (pc := 1) (fun y => [(0, .ref ((ad 0))), (1, .int set), (2, .int y)]) dX7_stampsOf_1 rfl (by decide) (fun _ => rfl) (fun y1 ey1 => ?_)
  refine V_iconst (pc := 2) (v := 0) dX7_stampsOf_2 (by decide) ?_
  refine V_isn (pc := 3) (fun y => [(0, .ref ((ad 0))), (1, .int set), (2, .int y1), (3, .int y)]) dX7_stampsOf_3 rfl (by decide) (fun _ => rfl) (fun y3 ey3 => ?_)
  obtain rfl : y3 = nI 0 := ey3
  subst ey1
  exact w_stampsOf_L hS hW hn hn10 h n 0 (by omega)
set_option maxRecDepth 100000 in
set_option maxHeartbeats 4000000 in
theorem w_sayOf {x : pX} {d : Nat} {S : pS} {Q : Int32 → pS → Prop} {ad : Nat → Nat} {σ : Nat → Int32} (hS : WS S ad) (hW : WR S ad σ) {n : Nat} (hn : σ 0 = nI n) (hn10 : n ≤ 10) {l r al ar : Int32} (h : Q (fsay σ n l r al ar) S) : PI x (d + 2) M_X7_sayOf [.ref ((ad 0)), .int l, .int r, .int al, .int ar] S Q := by
  unfold fsay at h
  refine PM_of (by decide +kernel) (Nat.le_of_ble_eq_true rfl) ?_
  show V x (d + 2) M_X7_sayOf (qi Q) (0, 0) 0 [(0, .ref ((ad 0))), (1, .int l), (2, .int r), (3, .int al), (4, .int ar)] [] S
  refine V_aln (pc := 0) dX7_sayOf_0 rfl rfl ?_
  refine V_iln (pc := 1) dX7_sayOf_1 rfl rfl ?_
  refine V_cVi0 (pc := 2) (jc_X7_115 dX7_sayOf_2 rfl) rfl rfl (Nat.le_of_ble_eq_true rfl) (hS.k 0 (by decide) rfl) ?_
  refine w_grainsOf hS hW hn hn10 ?_
  refine V_iln (pc := 5) dX7_sayOf_5 rfl rfl ?_
  refine V_imul (pc := 6) dX7_sayOf_6 ?_
  refine V_is (pc := 7) (fun y => [(0, .ref ((ad 0))), (1, .int l), (2, .int r), (3, .int al), (4, .int ar), (5, .int y)]) dX7_sayOf_7 (by decide) (fun _ => rfl) (fun y7 ey7 => ?_)
  refine V_aln (pc := 9) dX7_sayOf_9 rfl rfl ?_
  refine V_iln (pc := 10) dX7_sayOf_10 rfl rfl ?_
  refine V_cVi0 (pc := 11) (jc_X7_115 dX7_sayOf_11 rfl) rfl rfl (Nat.le_of_ble_eq_true rfl) (hS.k 0 (by decide) rfl) ?_
  refine w_grainsOf hS hW hn hn10 ?_
  refine V_il (pc := 14) dX7_sayOf_14 rfl ?_
  refine V_imul (pc := 16) dX7_sayOf_16 ?_
  refine V_is (pc := 17) (fun y => [(0, .ref ((ad 0))), (1, .int l), (2, .int r), (3, .int al), (4, .int ar), (5, .int y7), (6, .int y)]) dX7_sayOf_17 (by decide) (fun _ => rfl) (fun y17 ey17 => ?_)
  refine V_il (pc := 19) dX7_sayOf_19 rfl ?_
  refine V_il (pc := 21) dX7_sayOf_21 rfl ?_
  refine V_cne (pc := 23) (t := 28) dX7_sayOf_23 (by decide) (fun h23 => ?_) (fun h23 => ?_)
  · rw [ey7, ey17] at h23
    rw [if_neg h23] at h
    refine V_il (pc := 28) dX7_sayOf_28 rfl ?_
    refine V_il (pc := 30) dX7_sayOf_30 rfl ?_
    refine V_cle (pc := 32) (t := 39) dX7_sayOf_32 (by decide) (fun h32 => ?_) (fun h32 => ?_)
    · rw [ey7, ey17] at h32
      rw [if_neg (Int32.not_lt.mpr h32)] at h
      refine V_iconst (pc := 39) (v := 2) dX7_sayOf_39 (by decide) ?_
      refine V_iret (pc := 40) dX7_sayOf_40 rfl rfl ?_
      exact h
    · rw [ey7, ey17] at h32
      rw [if_pos (Int32.not_le.mp h32)] at h
      refine V_iconst (pc := 35) (v := 1) dX7_sayOf_35 (by decide) ?_
      refine V_goto (pc := 36) (t := 40) dX7_sayOf_36 (by decide) ?_
      refine V_iret (pc := 40) dX7_sayOf_40 rfl rfl ?_
      exact h
  · rw [ey7, ey17] at h23
    rw [if_pos h23] at h
    refine V_iconst (pc := 26) (v := 0) dX7_sayOf_26 (by decide) ?_
    refine V_iret (pc := 27) dX7_sayOf_27 rfl rfl ?_
    exact h
set_option maxRecDepth 100000 in
set_option maxHeartbeats 4000000 in
theorem b_has {x : pX} {d : Nat} {S : pS} {Q : Int32 → pS → Prop} {ad : Nat → Nat} {σ : Nat → Int32} (hS : WS S ad) (hW : WR S ad σ) {np : Nat} {i : Int32} (hp : σ 5 = nI np) (hp20 : np ≤ 20) (h1 : ∀ k, k < np → i = nI k → (nI k).toInt = k → (nI k).toNatClampNeg = k → Q 1 S) (h0 : ¬ (0 ≤ i.toInt ∧ i.toInt < np) → Q 0 S) : PI x (d + 1) M_X0_has [.ref ((ad 3)), .int i] S Q := by
  have tn : (nI np).toInt = np := nI_toInt (by omega)
  refine PM_of (by decide +kernel) (Nat.le_of_ble_eq_true rfl) ?_
  show V x (d + 1) M_X0_has (qi Q) (0, 0) 0 [(0, .ref ((ad 3))), (1, .int i)] [] S
  refine V_iln (pc := 0) dX0_has_0 rfl rfl ?_
  refine V_lt (pc := 1) (t := 22) dX0_has_1 (by decide) (fun h1_ => ?_) (fun h1_ => ?_)
  · have q0 : ¬ (0 ≤ i.toInt ∧ i.toInt < np) := fun w => by have := lt_toInt.mp h1_; have e : (0 : Int32).toInt = 0 := rfl; omega
    refine V_iconst (pc := 22) (v := 0) dX0_has_22 (by decide) ?_
    refine V_iret (pc := 23) dX0_has_23 rfl rfl ?_
    first | exact h1 k hk rfl e2 e3 | exact h0 q0
  · have q1 : 0 ≤ i.toInt := by have := le_toInt.mp (Int32.not_lt.mp h1_); have e : (0 : Int32).toInt = 0 := rfl; omega
    refine V_iln (pc := 4) dX0_has_4 rfl rfl ?_
    refine V_aln (pc := 5) dX0_has_5 rfl rfl ?_
    refine V_gie (pc := 6) 0 1 1 dX0_has_6 (FL_X0_15 rfl) rfl rfl (hS.k 3 (by decide) rfl) (hW.1 1 3 5 (by decide)) ?_
    refine V_cge (pc := 9) (t := 22) dX0_has_9 (by decide) (fun h9 => ?_) (fun h9 => ?_)
    · have q0 : ¬ (0 ≤ i.toInt ∧ i.toInt < np) := fun w => by rw [hp] at h9; have := le_toInt.mp h9; omega
      refine V_iconst (pc := 22) (v := 0) dX0_has_22 (by decide) ?_
      refine V_iret (pc := 23) dX0_has_23 rfl rfl ?_
      first | exact h1 k hk rfl e2 e3 | exact h0 q0
    · have q2 : i.toInt < np := by rw [hp] at h9; have := lt_toInt.mp (Int32.not_le.mp h9); omega
      obtain ⟨k, hk, e1, e2, e3⟩ := idx_of (w := i) (n := np) (by omega) q1 q2
      subst e1
      refine V_iln (pc := 12) dX0_has_12 rfl rfl ?_
      refine V_bipush (pc := 13) (v := 20) dX0_has_13 (by decide) ?_
      refine V_cge (pc := 15) (t := 22) dX0_has_15 (by decide) (fun h15 => ?_) (fun h15 => ?_)
      · exact absurd h15 (nI_ge (b := 20) (by omega) (by decide))
      · refine V_iconst (pc := 18) (v := 1) dX0_has_18 (by decide) ?_
        refine V_goto (pc := 19) (t := 23) dX0_has_19 (by decide) ?_
        refine V_iret (pc := 23) dX0_has_23 rfl rfl ?_
        first | exact h1 k hk rfl e2 e3 | exact h0 q0
set_option maxRecDepth 100000 in
set_option maxHeartbeats 4000000 in
theorem b_read {x : pX} {d : Nat} {S : pS} {Q : Int32 → pS → Prop} {ad : Nat → Nat} {σ : Nat → Int32} (hS : WS S ad) (hW : WR S ad σ) {np i j : Nat} (hp : σ 5 = nI np) (hp20 : np ≤ 20) (hi : i < np) (hj : j ≤ 4) (h : Q (σ (54 + 5 * i + j)) S) : PI x (d + 2) M_X0_read [.ref ((ad 3)), .int (nI i), .int (nI j)] S Q := by
  have ti : (nI i).toInt = i := nI_toInt (by omega)
  have tj : (nI j).toInt = j := nI_toInt (by omega)
  refine PM_of (by decide +kernel) (Nat.le_of_ble_eq_true rfl) ?_
  show V x (d + 2) M_X0_read (qi Q) (0, 0) 0 [(0, .ref ((ad 3))), (1, .int (nI i)), (2, .int (nI j))] [] S
  refine V_aln (pc := 0) dX0_read_0 rfl rfl ?_
  refine V_iln (pc := 1) dX0_read_1 rfl rfl ?_
  refine V_cVi0 (pc := 2) (jc_X0_25 dX0_read_2 rfl) rfl rfl (Nat.le_of_ble_eq_true rfl) (hS.k 3 (by decide) rfl) ?_
  refine b_has hS hW hp hp20 (fun k hk ek tk ck => ?_) (fun q => absurd q (by omega))
  · refine V_eq (pc := 5) (t := 30) dX0_read_5 (by decide) (fun h => absurd h (by decide)) (fun _ => ?_)
    refine V_iln (pc := 8) dX0_read_8 rfl rfl ?_
    refine V_iconst (pc := 9) (v := 0) dX0_read_9 (by decide) ?_
    refine V_iconst (pc := 10) (v := 4) dX0_read_10 (by decide) ?_
    refine V_cSi0 (pc := 11) (jc_X0_29 dX0_read_11 rfl) rfl rfl (Nat.le_of_ble_eq_true rfl) ?_
    refine c_within 0 4 (by decide) (by decide) (fun a1 a2 => ?_) (fun a0 => absurd a0 (by omega))
    · refine V_eq (pc := 14) (t := 30) dX0_read_14 (by decide) (fun h => absurd h (by decide)) (fun _ => ?_)
      refine V_aln (pc := 17) dX0_read_17 rfl rfl ?_
      refine V_gr (pc := 18) 0 0 0 dX0_read_18 (FL_X0_9 rfl) rfl rfl (hS.k 3 (by decide) rfl) hS.2.2.1.2.2.2.2.2.2.2 ?_
      refine V_iln (pc := 21) dX0_read_21 rfl rfl ?_
      refine V_iconst (pc := 22) (v := 5) dX0_read_22 (by decide) ?_
      refine V_imul (pc := 23) dX0_read_23 ?_
      refine V_iln (pc := 24) dX0_read_24 rfl rfl ?_
      refine V_iadd (pc := 25) dX0_read_25 ?_
      refine V_iae (pc := 26) (N := 100) ((5 * i + j)) dX0_read_26 (hS.k 4 (by decide) rfl) (hS.2.1 4 (by decide)) (by decide) (by rw [show (5 : Int32) = nI 5 from rfl, pk_mul, nI_add, Nat.mul_comm]) (by omega) (hW.2.2 ((5 * i + j)) (by omega)) ?_
      refine V_goto (pc := 27) (t := 32) dX0_read_27 (by decide) ?_
      refine V_iret (pc := 32) dX0_read_32 rfl rfl ?_
      rw [show 54 + 5 * i + j = 54 + (5 * i + j) by omega] at h
      exact h
theorem shP_cpy {P : pS} {ad : Nat → Nat} {σ : Nat → Int32} (h : WR P ad σ) (hS : WS P ad) : WR (sX P (ad 4) (va_cpy (gX P (ad 4)) (gX P (ad 4)) 5 0 95)) ad (shP σ 95) := by
  refine ⟨fun f i k hc => ?_, fun j' hj' => ?_, fun j' hj' => ?_⟩
  · unfold shP; rw [if_neg (by unfold cI at hc; omega)]; exact h.1 _ _ _ hc
  · rw [gX_sX, if_neg (fun w => absurd (hS.2.2.2.2.1 2 4 (by unfold wIx; omega) (by unfold wIx; omega) w) (by decide))]; unfold shP; rw [if_neg (by omega)]; exact h.2.1 j' hj'
  · rw [gX_sX, if_pos rfl]; unfold shP va_cpy
    by_cases q : j' < 95
    · rw [if_pos (by omega), if_pos (by omega)]
      have e := h.2.2 (5 + (j' - 0)) (by omega)
      rw [e]; congr 1; omega
    · rw [if_neg (by omega), if_neg (by omega)]; exact h.2.2 j' hj'
theorem pg5_eq (τ : Nat → Int32) (q : Nat) (l r al ar s : Int32) : upd (upd (upd (upd (upd (upd τ (54 + (5 * q + 0)) l) (54 + (5 * q + 1)) r) (54 + (5 * q + 2)) s) (54 + (5 * q + 3)) al) (54 + (5 * q + 4)) ar) 5 (nI (q + 1)) = pg5 τ q l r al ar s := by
  unfold pg5
  rw [show 54 + (5 * q + 0) = 54 + 5 * q by omega, show 54 + (5 * q + 1) = 54 + 5 * q + 1 by omega, show 54 + (5 * q + 2) = 54 + 5 * q + 2 by omega, show 54 + (5 * q + 3) = 54 + 5 * q + 3 by omega, show 54 + (5 * q + 4) = 54 + 5 * q + 4 by omega]
set_option maxRecDepth 100000 in
set_option maxHeartbeats 4000000 in
theorem b_write_35 {x : pX} {d : Nat} {S : pS} {b : Nat × Nat} {Q : pS → Prop} {ad : Nat → Nat} {τ : Nat → Int32} {q : Nat} {l r s al ar : Int32} (hS : WS S ad) (hW : WR S ad τ) (hq : τ 5 = nI q) (hq20 : q < 20) (h : ∀ S2, wfr ad S S2 → WR S2 ad (pg5 τ q l r al ar s) → Q S2) : V x (d + 1) M_X0_write (qv Q) b 35 [(0, .ref ((ad 3))), (1, .int l), (2, .int r), (3, .int s), (4, .int al), (5, .int ar)] [] S := by
  refine V_aln (pc := 35) dX0_write_35 rfl rfl ?_
  refine V_gie (pc := 36) 0 1 1 dX0_write_36 (FL_X0_15 rfl) rfl rfl (hS.k 3 (by decide) rfl) (hW.1 1 3 5 (by decide)) ?_
  refine V_iconst (pc := 39) (v := 5) dX0_write_39 (by decide) ?_
  refine V_imul (pc := 40) dX0_write_40 ?_
  refine V_is (pc := 41) (fun y => [(0, .ref ((ad 3))), (1, .int l), (2, .int r), (3, .int s), (4, .int al), (5, .int ar), (6, .int y)]) dX0_write_41 (by decide) (fun _ => rfl) (fun y41 ey41 => ?_)
  obtain rfl : y41 = nI (5 * q) := by rw [ey41]; rw [hq, show (5 : Int32) = nI 5 from rfl, pk_mul, Nat.mul_comm]
  refine V_aln (pc := 43) dX0_write_43 rfl rfl ?_
  refine V_gr (pc := 44) 0 0 0 dX0_write_44 (FL_X0_9 rfl) rfl rfl (hS.k 3 (by decide) rfl) hS.2.2.1.2.2.2.2.2.2.2 ?_
  refine V_il (pc := 47) dX0_write_47 rfl ?_
  refine V_iconst (pc := 49) (v := 0) dX0_write_49 (by decide) ?_
  refine V_iadd (pc := 50) dX0_write_50 ?_
  refine V_iln (pc := 51) dX0_write_51 rfl rfl ?_
  refine V_ias (pc := 52) (N := 100) ((5 * q + 0)) dX0_write_52 (hS.k 4 (by decide) rfl) (hS.2.1 4 (by decide)) (by decide) (by rw [show (0 : Int32) = nI 0 from rfl, nI_add]) (by show (_ : Nat) < 100; omega) ?_
  have hW52 := hW.Rw hS (j := ((5 * q + 0))) (by omega) l
  have hF52 := (wfr.rf (ad := ad) (P := S)).Xu (i := 4) (by decide) (by decide) (by decide) ((5 * q + 0)) l
  refine V_aln (pc := 53) dX0_write_53 rfl rfl ?_
  refine V_gr (pc := 54) 0 0 0 dX0_write_54 (FL_X0_9 rfl) rfl rfl (hS.k 3 (by decide) rfl) hS.2.2.1.2.2.2.2.2.2.2 ?_
  refine V_il (pc := 57) dX0_write_57 rfl ?_
  refine V_iconst (pc := 59) (v := 1) dX0_write_59 (by decide) ?_
  refine V_iadd (pc := 60) dX0_write_60 ?_
  refine V_iln (pc := 61) dX0_write_61 rfl rfl ?_
  refine V_ias (pc := 62) (N := 100) ((5 * q + 1)) dX0_write_62 (hS.k 4 (by decide) rfl) (hS.2.1 4 (by decide)) (by decide) (by rw [show (1 : Int32) = nI 1 from rfl, nI_add]) (by show (_ : Nat) < 100; omega) ?_
  have hW62 := hW52.Rw hS (j := ((5 * q + 1))) (by omega) r
  have hF62 := hF52.Xu (i := 4) (by decide) (by decide) (by decide) ((5 * q + 1)) r
  refine V_aln (pc := 63) dX0_write_63 rfl rfl ?_
  refine V_gr (pc := 64) 0 0 0 dX0_write_64 (FL_X0_9 rfl) rfl rfl (hS.k 3 (by decide) rfl) hS.2.2.1.2.2.2.2.2.2.2 ?_
  refine V_il (pc := 67) dX0_write_67 rfl ?_
  refine V_iconst (pc := 69) (v := 2) dX0_write_69 (by decide) ?_
  refine V_iadd (pc := 70) dX0_write_70 ?_
  refine V_iln (pc := 71) dX0_write_71 rfl rfl ?_
  refine V_ias (pc := 72) (N := 100) ((5 * q + 2)) dX0_write_72 (hS.k 4 (by decide) rfl) (hS.2.1 4 (by decide)) (by decide) (by rw [show (2 : Int32) = nI 2 from rfl, nI_add]) (by show (_ : Nat) < 100; omega) ?_
  have hW72 := hW62.Rw hS (j := ((5 * q + 2))) (by omega) s
  have hF72 := hF62.Xu (i := 4) (by decide) (by decide) (by decide) ((5 * q + 2)) s
  refine V_aln (pc := 73) dX0_write_73 rfl rfl ?_
  refine V_gr (pc := 74) 0 0 0 dX0_write_74 (FL_X0_9 rfl) rfl rfl (hS.k 3 (by decide) rfl) hS.2.2.1.2.2.2.2.2.2.2 ?_
  refine V_il (pc := 77) dX0_write_77 rfl ?_
  refine V_iconst (pc := 79) (v := 3) dX0_write_79 (by decide) ?_
  refine V_iadd (pc := 80) dX0_write_80 ?_
  refine V_il (pc := 81) dX0_write_81 rfl ?_
  refine V_ias (pc := 83) (N := 100) ((5 * q + 3)) dX0_write_83 (hS.k 4 (by decide) rfl) (hS.2.1 4 (by decide)) (by decide) (by rw [show (3 : Int32) = nI 3 from rfl, nI_add]) (by show (_ : Nat) < 100; omega) ?_
  have hW83 := hW72.Rw hS (j := ((5 * q + 3))) (by omega) al
  have hF83 := hF72.Xu (i := 4) (by decide) (by decide) (by decide) ((5 * q + 3)) al
  refine V_aln (pc := 84) dX0_write_84 rfl rfl ?_
  refine V_gr (pc := 85) 0 0 0 dX0_write_85 (FL_X0_9 rfl) rfl rfl (hS.k 3 (by decide) rfl) hS.2.2.1.2.2.2.2.2.2.2 ?_
  refine V_il (pc := 88) dX0_write_88 rfl ?_
  refine V_iconst (pc := 90) (v := 4) dX0_write_90 (by decide) ?_
  refine V_iadd (pc := 91) dX0_write_91 ?_
  refine V_il (pc := 92) dX0_write_92 rfl ?_
  refine V_ias (pc := 94) (N := 100) ((5 * q + 4)) dX0_write_94 (hS.k 4 (by decide) rfl) (hS.2.1 4 (by decide)) (by decide) (by rw [show (4 : Int32) = nI 4 from rfl, nI_add]) (by show (_ : Nat) < 100; omega) ?_
  have hW94 := hW83.Rw hS (j := ((5 * q + 4))) (by omega) ar
  have hF94 := hF83.Xu (i := 4) (by decide) (by decide) (by decide) ((5 * q + 4)) ar
  refine V_aln (pc := 95) dX0_write_95 rfl rfl ?_
  refine V_dup (pc := 96) dX0_write_96 rfl ?_
  refine V_gi (pc := 97) 0 1 1 dX0_write_97 (FL_X0_15 rfl) rfl rfl (hS.k 3 (by decide) rfl) ?_
  refine V_iconst (pc := 100) (v := 1) dX0_write_100 (by decide) ?_
  refine V_iadd (pc := 101) dX0_write_101 ?_
  refine V_pi (pc := 102) 0 1 1 dX0_write_102 (FL_X0_15 rfl) rfl rfl rfl (hS.k 3 (by decide) rfl) ?_
  have eC := hW94.1 1 3 5 (by decide)
  rw [pk_un (by omega), pk_un (by omega), pk_un (by omega), pk_un (by omega), pk_un (by omega), hq] at eC
  have hW2 := hW94.I hS (f := 1) (i := 3) (k := 5) (by decide) (nI (q + 1))
  have hF2 := hF94.I (i := 3) (by decide) (by decide) (by decide) 1 (nI (q + 1))
  rw [pg5_eq] at hW2
  refine V_ret (pc := 105) dX0_write_105 rfl ?_
  rw [eC, nI_1]
  exact h _ hF2 hW2
set_option maxRecDepth 100000 in
set_option maxHeartbeats 4000000 in
theorem b_write {x : pX} {d : Nat} {S : pS} {Q : pS → Prop} {ad : Nat → Nat} {σ : Nat → Int32} (hS : WS S ad) (hW : WR S ad σ) {np : Nat} {l r s al ar : Int32} (hp : σ 5 = nI np) (hp20 : np ≤ 20) (h : ∀ S2, wfr ad S S2 → WR S2 ad (sPage σ np l r al ar s) → Q S2) : PV x (d + 1) M_X0_write [.ref ((ad 3)), .int l, .int r, .int s, .int al, .int ar] S Q := by
  unfold sPage at h
  refine PM_of (by decide +kernel) (Nat.le_of_ble_eq_true rfl) ?_
  show V x (d + 1) M_X0_write (qv Q) (0, 0) 0 [(0, .ref ((ad 3))), (1, .int l), (2, .int r), (3, .int s), (4, .int al), (5, .int ar)] [] S
  refine V_aln (pc := 0) dX0_write_0 rfl rfl ?_
  refine V_gie (pc := 1) 0 1 1 dX0_write_1 (FL_X0_15 rfl) rfl rfl (hS.k 3 (by decide) rfl) (hW.1 1 3 5 (by decide)) ?_
  refine V_bipush (pc := 4) (v := 20) dX0_write_4 (by decide) ?_
  refine V_clt (pc := 6) (t := 35) dX0_write_6 (by decide) (fun h6 => ?_) (fun h6 => ?_)
  · have q : ¬ np = 20 := fun w => absurd h6 (by rw [hp, w]; decide)
    rw [if_neg q] at h
    refine b_write_35 (q := np) hS hW hp (by omega) h
  · have q : np = 20 := by
      rcases Nat.lt_or_ge np 20 with w | w
      · exact absurd (by rw [hp]; exact nI_lt w (by decide)) h6
      · omega
    rw [if_pos q] at h
    refine V_aln (pc := 9) dX0_write_9 rfl rfl ?_
    refine V_gr (pc := 10) 0 0 0 dX0_write_10 (FL_X0_9 rfl) rfl rfl (hS.k 3 (by decide) rfl) hS.2.2.1.2.2.2.2.2.2.2 ?_
    refine V_iconst (pc := 13) (v := 5) dX0_write_13 (by decide) ?_
    refine V_aln (pc := 14) dX0_write_14 rfl rfl ?_
    refine V_gr (pc := 15) 0 0 0 dX0_write_15 (FL_X0_9 rfl) rfl rfl (hS.k 3 (by decide) rfl) hS.2.2.1.2.2.2.2.2.2.2 ?_
    refine V_iconst (pc := 18) (v := 0) dX0_write_18 (by decide) ?_
    refine V_aln (pc := 19) dX0_write_19 rfl rfl ?_
    refine V_gr (pc := 20) 0 0 0 dX0_write_20 (FL_X0_9 rfl) rfl rfl (hS.k 3 (by decide) rfl) hS.2.2.1.2.2.2.2.2.2.2 ?_
    refine V_len (pc := 23) (N := 100) dX0_write_23 (hS.k 4 (by decide) rfl) (hS.2.1 4 (by decide)) ?_
    refine V_iconst (pc := 24) (v := 5) dX0_write_24 (by decide) ?_
    refine V_isub (pc := 25) dX0_write_25 ?_
    rw [show nI 100 - 5 = nI 95 from rfl]
    refine V_acp (pc := 26) 5 0 95 100 100 (ja_X0_19 dX0_write_26 rfl) (by omega) (Nat.le_of_ble_eq_true rfl) (hS.k 4 (by decide) rfl) (hS.k 4 (by decide) rfl) (hS.2.1 4 (by decide)) (hS.2.1 4 (by decide)) rfl rfl rfl (by decide) (by decide) (by decide) (by decide) ?_
    refine V_aln (pc := 29) dX0_write_29 rfl rfl ?_
    refine V_bipush (pc := 30) (v := 19) dX0_write_30 (by decide) ?_
    refine V_pi (pc := 32) 0 1 1 dX0_write_32 (FL_X0_15 rfl) rfl rfl rfl (hS.k 3 (by decide) rfl) ?_
    have hW2 := shP_cpy hW hS
    have hW3 := hW2.I hS (f := 1) (i := 3) (k := 5) (by decide) 19
    have hF3 := ((wfr.rf (ad := ad) (P := S)).X (i := 4) (by decide) (by decide) (by decide) (va_cpy (gX S (ad 4)) (gX S (ad 4)) 5 0 95)).I (i := 3) (by decide) (by decide) (by decide) 1 19
    refine b_write_35 (q := 19) (show WS (sI (sX S (ad 4) (va_cpy (gX S (ad 4)) (gX S (ad 4)) 5 0 95)) 1 (ad 3) 19) ad from hS) hW3 (by rw [pk_us]; rfl) (by decide) (fun S2 f2 w2 => h S2 (hF3.tr f2) w2)
set_option maxRecDepth 100000 in
set_option maxHeartbeats 4000000 in
theorem w_fits {x : pX} {d : Nat} {S : pS} {Q : Int32 → pS → Prop} {ad : Nat → Nat} {σ : Nat → Int32} (hS : WS S ad) (hW : WR S ad σ) {n : Nat} (hn : σ 0 = nI n) (hn10 : n ≤ 10) {np i : Nat} {w : Int32} (hp : σ 5 = nI np) (hp20 : np ≤ 20) (hi : i < np) (h1 : ffit σ n i (w ^^^ (-1)) → Q 1 S) (h0 : ¬ ffit σ n i (w ^^^ (-1)) → Q 0 S) : PI x (d + 3) M_X7_fits [.ref ((ad 0)), .int (nI i), .int w] S Q := by
  refine PM_of (by decide +kernel) (Nat.le_of_ble_eq_true rfl) ?_
  show V x (d + 3) M_X7_fits (qi Q) (0, 0) 0 [(0, .ref ((ad 0))), (1, .int (nI i)), (2, .int w)] [] S
  refine V_aln (pc := 0) dX7_fits_0 rfl rfl ?_
  refine V_gr (pc := 1) 7 3 227 dX7_fits_1 (FL_X7_24 rfl) rfl rfl (hS.k 0 (by decide) rfl) hS.2.2.1.2.2.1 ?_
  refine V_iln (pc := 4) dX7_fits_4 rfl rfl ?_
  refine V_iconst (pc := 5) (v := 0) dX7_fits_5 (by decide) ?_
  refine V_cVi0 (pc := 6) (jc_X7_119 dX7_fits_6 rfl) rfl rfl (Nat.le_of_ble_eq_true rfl) (hS.k 3 (by decide) rfl) ?_
  refine b_read (j := 0) hS hW hp hp20 hi (by decide) ?_
  refine V_iln (pc := 9) dX7_fits_9 rfl rfl ?_
  refine V_iconst (pc := 10) (v := (-1)) dX7_fits_10 (by decide) ?_
  refine V_ixor (pc := 11) dX7_fits_11 ?_
  refine V_iand (pc := 12) dX7_fits_12 ?_
  refine V_isn (pc := 13) (fun y => [(0, .ref ((ad 0))), (1, .int (nI i)), (2, .int w), (3, .int y)]) dX7_fits_13 rfl (by decide) (fun _ => rfl) (fun y13 ey13 => ?_)
  refine V_aln (pc := 14) dX7_fits_14 rfl rfl ?_
  refine V_gr (pc := 15) 7 3 227 dX7_fits_15 (FL_X7_24 rfl) rfl rfl (hS.k 0 (by decide) rfl) hS.2.2.1.2.2.1 ?_
  refine V_iln (pc := 18) dX7_fits_18 rfl rfl ?_
  refine V_iconst (pc := 19) (v := 1) dX7_fits_19 (by decide) ?_
  refine V_cVi0 (pc := 20) (jc_X7_119 dX7_fits_20 rfl) rfl rfl (Nat.le_of_ble_eq_true rfl) (hS.k 3 (by decide) rfl) ?_
  refine b_read (j := 1) hS hW hp hp20 hi (by decide) ?_
  refine V_iln (pc := 23) dX7_fits_23 rfl rfl ?_
  refine V_iconst (pc := 24) (v := (-1)) dX7_fits_24 (by decide) ?_
  refine V_ixor (pc := 25) dX7_fits_25 ?_
  refine V_iand (pc := 26) dX7_fits_26 ?_
  refine V_is (pc := 27) (fun y => [(0, .ref ((ad 0))), (1, .int (nI i)), (2, .int w), (3, .int y13), (4, .int y)]) dX7_fits_27 (by decide) (fun _ => rfl) (fun y27 ey27 => ?_)
  refine V_aln (pc := 29) dX7_fits_29 rfl rfl ?_
  refine V_iln (pc := 30) dX7_fits_30 rfl rfl ?_
  refine V_il (pc := 31) dX7_fits_31 rfl ?_
  refine V_aln (pc := 33) dX7_fits_33 rfl rfl ?_
  refine V_gr (pc := 34) 7 3 227 dX7_fits_34 (FL_X7_24 rfl) rfl rfl (hS.k 0 (by decide) rfl) hS.2.2.1.2.2.1 ?_
  refine V_iln (pc := 37) dX7_fits_37 rfl rfl ?_
  refine V_iconst (pc := 38) (v := 3) dX7_fits_38 (by decide) ?_
  refine V_cVi0 (pc := 39) (jc_X7_119 dX7_fits_39 rfl) rfl rfl (Nat.le_of_ble_eq_true rfl) (hS.k 3 (by decide) rfl) ?_
  refine b_read (j := 3) hS hW hp hp20 hi (by decide) ?_
  refine V_aln (pc := 42) dX7_fits_42 rfl rfl ?_
  refine V_gr (pc := 43) 7 3 227 dX7_fits_43 (FL_X7_24 rfl) rfl rfl (hS.k 0 (by decide) rfl) hS.2.2.1.2.2.1 ?_
  refine V_iln (pc := 46) dX7_fits_46 rfl rfl ?_
  refine V_iconst (pc := 47) (v := 4) dX7_fits_47 (by decide) ?_
  refine V_cVi0 (pc := 48) (jc_X7_119 dX7_fits_48 rfl) rfl rfl (Nat.le_of_ble_eq_true rfl) (hS.k 3 (by decide) rfl) ?_
  refine b_read (j := 4) hS hW hp hp20 hi (by decide) ?_
  refine V_cVi0 (pc := 51) (jc_X7_122 dX7_fits_51 rfl) rfl rfl (Nat.le_of_ble_eq_true rfl) (hS.k 0 (by decide) rfl) ?_
  refine w_sayOf hS hW hn hn10 ?_
  refine V_is (pc := 54) (fun y => [(0, .ref ((ad 0))), (1, .int (nI i)), (2, .int w), (3, .int y13), (4, .int y27), (5, .int y)]) dX7_fits_54 (by decide) (fun _ => rfl) (fun y54 ey54 => ?_)
  refine V_il (pc := 56) dX7_fits_56 rfl ?_
  refine V_aln (pc := 58) dX7_fits_58 rfl rfl ?_
  refine V_gr (pc := 59) 7 3 227 dX7_fits_59 (FL_X7_24 rfl) rfl rfl (hS.k 0 (by decide) rfl) hS.2.2.1.2.2.1 ?_
  refine V_iln (pc := 62) dX7_fits_62 rfl rfl ?_
  refine V_iconst (pc := 63) (v := 2) dX7_fits_63 (by decide) ?_
  refine V_cVi0 (pc := 64) (jc_X7_119 dX7_fits_64 rfl) rfl rfl (Nat.le_of_ble_eq_true rfl) (hS.k 3 (by decide) rfl) ?_
  refine b_read (j := 2) hS hW hp hp20 hi (by decide) ?_
  refine V_cne (pc := 67) (t := 74) dX7_fits_67 (by decide) (fun h67 => ?_) (fun h67 => ?_)
  · rw [ey54, ey13, ey27] at h67
    refine V_iconst (pc := 74) (v := 0) dX7_fits_74 (by decide) ?_
    refine V_iret (pc := 75) dX7_fits_75 rfl rfl ?_
    first | exact h1 h67 | exact h0 h67
  · rw [ey54, ey13, ey27] at h67
    refine V_iconst (pc := 70) (v := 1) dX7_fits_70 (by decide) ?_
    refine V_goto (pc := 71) (t := 75) dX7_fits_71 (by decide) ?_
    refine V_iret (pc := 75) dX7_fits_75 rfl rfl ?_
    first | exact h1 h67 | exact h0 h67
set_option maxRecDepth 100000 in
set_option maxHeartbeats 4000000 in
theorem w_fitCount_L {x : pX} {d : Nat} {S : pS} {b : Nat × Nat} {Q : Int32 → pS → Prop} {ad : Nat → Nat} {σ : Nat → Int32} (hS : WS S ad) (hW : WR S ad σ) {n : Nat} (hn : σ 0 = nI n) (hn10 : n ≤ 10) {np : Nat} {w : Int32} (hp : σ 5 = nI np) (hp20 : np ≤ 20) (h : Q (nI (ffn σ n (w ^^^ (-1)) np)) S) : ∀ (c k : Nat), k + c = np → V x (d + 4) M_X7_fitCount (qi Q) b 4 [(0, .ref ((ad 0))), (1, .int w), (2, .int (nI ((ffn σ n (w ^^^ (-1)) k)))), (3, .int (nI k))] [] S := by
  intro c
  induction c with
  | zero =>
    intro k hk 
    refine V_iln (pc := 4) dX7_fitCount_4 rfl rfl ?_
    refine V_aln (pc := 5) dX7_fitCount_5 rfl rfl ?_
    refine V_gr (pc := 6) 7 3 227 dX7_fitCount_6 (FL_X7_24 rfl) rfl rfl (hS.k 0 (by decide) rfl) hS.2.2.1.2.2.1 ?_
    refine V_gie (pc := 9) 0 1 1 dX7_fitCount_9 (FL_X7_126 rfl) rfl rfl (hS.k 3 (by decide) rfl) (hW.1 1 3 5 (by decide)) ?_
    refine V_cge (pc := 12) (t := 38) dX7_fitCount_12 (by decide) (fun h12 => ?_) (fun h12 => ?_)
    · refine V_iln (pc := 38) dX7_fitCount_38 rfl rfl ?_
      refine V_iret (pc := 39) dX7_fitCount_39 rfl rfl ?_
      obtain rfl : k = np := by omega
      exact h
    · exact absurd (by rw [hp]; exact nI_le (by omega) (by omega)) h12
  | succ c ih =>
    intro k hk 
    refine V_iln (pc := 4) dX7_fitCount_4 rfl rfl ?_
    refine V_aln (pc := 5) dX7_fitCount_5 rfl rfl ?_
    refine V_gr (pc := 6) 7 3 227 dX7_fitCount_6 (FL_X7_24 rfl) rfl rfl (hS.k 0 (by decide) rfl) hS.2.2.1.2.2.1 ?_
    refine V_gie (pc := 9) 0 1 1 dX7_fitCount_9 (FL_X7_126 rfl) rfl rfl (hS.k 3 (by decide) rfl) (hW.1 1 3 5 (by decide)) ?_
    refine V_cge (pc := 12) (t := 38) dX7_fitCount_12 (by decide) (fun h12 => ?_) (fun h12 => ?_)
    · exact absurd h12 (by rw [hp]; exact nI_ge (by omega) (by omega))
    · refine V_iln (pc := 15) dX7_fitCount_15 rfl rfl ?_
      refine V_aln (pc := 16) dX7_fitCount_16 rfl rfl ?_
      refine V_iln (pc := 17) dX7_fitCount_17 rfl rfl ?_
      refine V_iln (pc := 18) dX7_fitCount_18 rfl rfl ?_
      refine V_cVi0 (pc := 19) (jc_X7_129 dX7_fitCount_19 rfl) rfl rfl (Nat.le_of_ble_eq_true rfl) (hS.k 0 (by decide) rfl) ?_
      refine w_fits hS hW hn hn10 hp hp20 (by omega) (fun q => ?_) (fun q => ?_)
      · have e : ffn σ n (w ^^^ (-1)) (k + 1) = ffn σ n (w ^^^ (-1)) k + 1 := by show _ + (if _ then 1 else 0) = _; rw [if_pos q]
        refine V_eq (pc := 22) (t := 29) dX7_fitCount_22 (by decide) (fun h => absurd h (by decide)) (fun _ => ?_)
        refine V_iconst (pc := 25) (v := 1) dX7_fitCount_25 (by decide) ?_
        refine V_goto (pc := 26) (t := 30) dX7_fitCount_26 (by decide) ?_
        refine V_iadd (pc := 30) dX7_fitCount_30 ?_
        refine V_isn (pc := 31) (fun y => [(0, .ref ((ad 0))), (1, .int w), (2, .int y), (3, .int (nI k))]) dX7_fitCount_31 rfl (by decide) (fun _ => rfl) (fun y31 ey31 => ?_)
        obtain rfl : y31 = nI (ffn σ n (w ^^^ (-1)) (k + 1)) := by rw [ey31]; rw [e]; exact nI_add _ _
        refine V_inc (pc := 32) (fun y => [(0, .ref ((ad 0))), (1, .int w), (2, .int (nI (ffn σ n (w ^^^ (-1)) (k + 1)))), (3, .int y)]) (w := 1) dX7_fitCount_32 (by decide) (by decide) rfl (fun _ => rfl) (fun y32 ey32 => ?_)
        obtain rfl : y32 = nI (k + 1) := by rw [ey32]; exact nI_1 _
        refine V_goto (pc := 35) (t := 4) dX7_fitCount_35 (by decide) ?_
        exact ih (k + 1) (by omega)
      · have e : ffn σ n (w ^^^ (-1)) (k + 1) = ffn σ n (w ^^^ (-1)) k + 0 := by show _ + (if _ then 1 else 0) = _; rw [if_neg q]
        refine V_eq (pc := 22) (t := 29) dX7_fitCount_22 (by decide) (fun _ => ?_) (fun h => absurd h (by decide))
        refine V_iconst (pc := 29) (v := 0) dX7_fitCount_29 (by decide) ?_
        refine V_iadd (pc := 30) dX7_fitCount_30 ?_
        refine V_isn (pc := 31) (fun y => [(0, .ref ((ad 0))), (1, .int w), (2, .int y), (3, .int (nI k))]) dX7_fitCount_31 rfl (by decide) (fun _ => rfl) (fun y31 ey31 => ?_)
        obtain rfl : y31 = nI (ffn σ n (w ^^^ (-1)) (k + 1)) := by rw [ey31]; rw [e]; exact nI_add _ _
        refine V_inc (pc := 32) (fun y => [(0, .ref ((ad 0))), (1, .int w), (2, .int (nI (ffn σ n (w ^^^ (-1)) (k + 1)))), (3, .int y)]) (w := 1) dX7_fitCount_32 (by decide) (by decide) rfl (fun _ => rfl) (fun y32 ey32 => ?_)
        obtain rfl : y32 = nI (k + 1) := by rw [ey32]; exact nI_1 _
        refine V_goto (pc := 35) (t := 4) dX7_fitCount_35 (by decide) ?_
        exact ih (k + 1) (by omega)
set_option maxRecDepth 100000 in
set_option maxHeartbeats 4000000 in
theorem w_fitCount {x : pX} {d : Nat} {S : pS} {Q : Int32 → pS → Prop} {ad : Nat → Nat} {σ : Nat → Int32} (hS : WS S ad) (hW : WR S ad σ) {n : Nat} (hn : σ 0 = nI n) (hn10 : n ≤ 10) {np : Nat} {w : Int32} (hp : σ 5 = nI np) (hp20 : np ≤ 20) (h : Q (nI (ffn σ n (w ^^^ (-1)) np)) S) : PI x (d + 4) M_X7_fitCount [.ref ((ad 0)), .int w] S Q := by
  refine PM_of (by decide +kernel) (Nat.le_of_ble_eq_true rfl) ?_
  show V x (d + 4) M_X7_fitCount (qi Q) (0, 0) 0 [(0, .ref ((ad 0))), (1, .int w)] [] S
  refine V_iconst (pc := 0) (v := 0) dX7_fitCount_0 (by decide) ?_
  refine V_isn (pc := 1) (fun y => [(0, .ref ((ad 0))), (1, .int w), (2, .int y)]) dX7_fitCount_1 rfl (by decide) (fun _ => rfl) (fun y1 ey1 => ?_)
  obtain rfl : y1 = nI 0 := ey1
  refine V_iconst (pc := 2) (v := 0) dX7_fitCount_2 (by decide) ?_
  refine V_isn (pc := 3) (fun y => [(0, .ref ((ad 0))), (1, .int w), (2, .int (nI 0)), (3, .int y)]) dX7_fitCount_3 rfl (by decide) (fun _ => rfl) (fun y3 ey3 => ?_)
  obtain rfl : y3 = nI 0 := ey3
  exact w_fitCount_L hS hW hn hn10 hp hp20 h np 0 (by omega)
