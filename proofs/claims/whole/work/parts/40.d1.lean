/-! ===== the class: sheets, the tape, small helpers ===== -/
set_option maxRecDepth 100000 in
set_option maxHeartbeats 1000000 in
theorem sh_isMissing {x : pX} {d : Nat} {S : pS} {Q : Int32 → pS → Prop} {a : Nat} (ha : hk S a 2) (h1 : gI S 64 a = -1 → Q 1 S) (h0 : ¬ gI S 64 a = -1 → Q 0 S) : PI x (d + 1) M_X2_isMissing [.ref a] S Q := by
  refine PM_of (by decide +kernel) (Nat.le_of_ble_eq_true rfl) ?_
  show V x (d + 1) M_X2_isMissing (qi Q) (0, 0) 0 [(0, .ref a)] [] S
  refine V_aln (pc := 0) dX2_isMissing_0 rfl rfl ?_
  refine V_gie (pc := 1) 2 0 64 dX2_isMissing_1 (FL_X2_9 rfl) rfl rfl ha rfl ?_
  refine V_iconst (pc := 4) (v := (-1)) dX2_isMissing_4 (by decide) ?_
  refine V_cne (pc := 5) (t := 12) dX2_isMissing_5 (by decide) (fun h5 => ?_) (fun h5 => ?_)
  · have q := h5
    refine V_iconst (pc := 12) (v := 0) dX2_isMissing_12 (by decide) ?_
    refine V_iret (pc := 13) dX2_isMissing_13 rfl rfl ?_
    first | exact h1 q | exact h0 q
  · have q := h5
    refine V_iconst (pc := 8) (v := 1) dX2_isMissing_8 (by decide) ?_
    refine V_goto (pc := 9) (t := 13) dX2_isMissing_9 (by decide) ?_
    refine V_iret (pc := 13) dX2_isMissing_13 rfl rfl ?_
    first | exact h1 q | exact h0 q
set_option maxRecDepth 100000 in
set_option maxHeartbeats 1000000 in
theorem sh_has {x : pX} {d : Nat} {S : pS} {Q : Int32 → pS → Prop} {a : Nat} (ha : hk S a 2) {z : Nat} (hz : z ≤ 24) (ez : gI S 65 a = nI z) {i : Int32} (h1 : ∀ k, k < z → i = nI k → (nI k).toInt = k → (nI k).toNatClampNeg = k → Q 1 S) (h0 : ¬ (0 ≤ i.toInt ∧ i.toInt < z) → Q 0 S) : PI x (d + 1) M_X2_has [.ref a, .int i] S Q := by
  have tn : (nI z).toInt = z := nI_toInt (by omega)
  refine PM_of (by decide +kernel) (Nat.le_of_ble_eq_true rfl) ?_
  show V x (d + 1) M_X2_has (qi Q) (0, 0) 0 [(0, .ref a), (1, .int i)] [] S
  refine V_iln (pc := 0) dX2_has_0 rfl rfl ?_
  refine V_lt (pc := 1) (t := 16) dX2_has_1 (by decide) (fun h1_ => ?_) (fun h1_ => ?_)
  · have q0 : ¬ (0 ≤ i.toInt ∧ i.toInt < z) := fun w => by have := lt_toInt.mp h1_; have e : (0 : Int32).toInt = 0 := rfl; omega
    refine V_iconst (pc := 16) (v := 0) dX2_has_16 (by decide) ?_
    refine V_iret (pc := 17) dX2_has_17 rfl rfl ?_
    first | exact h1 k hk rfl e2 e3 | exact h0 q0
  · have q1 : 0 ≤ i.toInt := by have := le_toInt.mp (Int32.not_lt.mp h1_); have e : (0 : Int32).toInt = 0 := rfl; omega
    refine V_iln (pc := 4) dX2_has_4 rfl rfl ?_
    refine V_aln (pc := 5) dX2_has_5 rfl rfl ?_
    refine V_gie (pc := 6) 2 1 65 dX2_has_6 (FL_X2_23 rfl) rfl rfl ha rfl ?_
    refine V_cge (pc := 9) (t := 16) dX2_has_9 (by decide) (fun h9 => ?_) (fun h9 => ?_)
    · have q0 : ¬ (0 ≤ i.toInt ∧ i.toInt < z) := fun w => by rw [ez] at h9; have := le_toInt.mp h9; omega
      refine V_iconst (pc := 16) (v := 0) dX2_has_16 (by decide) ?_
      refine V_iret (pc := 17) dX2_has_17 rfl rfl ?_
      first | exact h1 k hk rfl e2 e3 | exact h0 q0
    · have q2 : i.toInt < z := by rw [ez] at h9; have := lt_toInt.mp (Int32.not_le.mp h9); omega
      obtain ⟨k, hk, e1, e2, e3⟩ := idx_of (w := i) (n := z) (by omega) q1 q2
      subst e1
      refine V_iconst (pc := 12) (v := 1) dX2_has_12 (by decide) ?_
      refine V_goto (pc := 13) (t := 17) dX2_has_13 (by decide) ?_
      refine V_iret (pc := 17) dX2_has_17 rfl rfl ?_
      first | exact h1 k hk rfl e2 e3 | exact h0 q0
set_option maxRecDepth 100000 in
set_option maxHeartbeats 1000000 in
theorem sh_hasNumber {x : pX} {d : Nat} {S : pS} {Q : Int32 → pS → Prop} {a p : Nat} (ha : hk S a 2) (hr : gR S 66 a = some p) (hp : hk S p 10) (hn : gN S p = 24) {z : Nat} (hz : z ≤ 24) (ez : gI S 65 a = nI z) {i : Int32} (h1 : ∀ k, k < z → i = nI k → (nI k).toInt = k → (nI k).toNatClampNeg = k → ¬ gX S p k = -1000000005 → Q 1 S) (h2 : ∀ k, k < z → i = nI k → (nI k).toInt = k → (nI k).toNatClampNeg = k → gX S p k = -1000000005 → Q 0 S) (h0 : ¬ (0 ≤ i.toInt ∧ i.toInt < z) → Q 0 S) : PI x (d + 2) M_X2_hasNumber [.ref a, .int i] S Q := by
  refine PM_of (by decide +kernel) (Nat.le_of_ble_eq_true rfl) ?_
  show V x (d + 2) M_X2_hasNumber (qi Q) (0, 0) 0 [(0, .ref a), (1, .int i)] [] S
  refine V_aln (pc := 0) dX2_hasNumber_0 rfl rfl ?_
  refine V_iln (pc := 1) dX2_hasNumber_1 rfl rfl ?_
  refine V_cVi0 (pc := 2) (jc_X2_38 dX2_hasNumber_2 rfl) rfl rfl (Nat.le_of_ble_eq_true rfl) ha ?_
  refine sh_has ha hz ez (fun k hk ek tk ck => ?_) (fun n0 => ?_)
  · subst ek
    refine V_eq (pc := 5) (t := 23) dX2_hasNumber_5 (by decide) (fun h => absurd h (by decide)) (fun _ => ?_)
    refine V_aln (pc := 8) dX2_hasNumber_8 rfl rfl ?_
    refine V_gr (pc := 9) 2 2 66 dX2_hasNumber_9 (FL_X2_15 rfl) rfl rfl ha hr ?_
    refine V_iln (pc := 12) dX2_hasNumber_12 rfl rfl ?_
    refine V_ia (pc := 13) k dX2_hasNumber_13 hp hn (by decide) rfl (by omega)  ?_
    refine V_ldc (pc := 14) dX2_hasNumber_14 (KC_X2_42 rfl) ?_
    refine V_ceq (pc := 16) (t := 23) dX2_hasNumber_16 (by decide) (fun h16 => ?_) (fun h16 => ?_)
    · have q := h16
      refine V_iconst (pc := 23) (v := 0) dX2_hasNumber_23 (by decide) ?_
      refine V_iret (pc := 24) dX2_hasNumber_24 rfl rfl ?_
      first | exact h1 k hk rfl tk ck q | exact h2 k hk rfl tk ck q | exact h0 n0
    · have q := h16
      refine V_iconst (pc := 19) (v := 1) dX2_hasNumber_19 (by decide) ?_
      refine V_goto (pc := 20) (t := 24) dX2_hasNumber_20 (by decide) ?_
      refine V_iret (pc := 24) dX2_hasNumber_24 rfl rfl ?_
      first | exact h1 k hk rfl tk ck q | exact h2 k hk rfl tk ck q | exact h0 n0
  · refine V_eq (pc := 5) (t := 23) dX2_hasNumber_5 (by decide) (fun _ => ?_) (fun h => absurd h (by decide))
    refine V_iconst (pc := 23) (v := 0) dX2_hasNumber_23 (by decide) ?_
    refine V_iret (pc := 24) dX2_hasNumber_24 rfl rfl ?_
    first | exact h1 k hk rfl tk ck q | exact h2 k hk rfl tk ck q | exact h0 n0
set_option maxRecDepth 100000 in
set_option maxHeartbeats 1000000 in
theorem sh_hasRow {x : pX} {d : Nat} {S : pS} {Q : Int32 → pS → Prop} {a : Nat} (ha : hk S a 2) {z : Nat} (hz : z ≤ 24) (ez : gI S 65 a = nI z) {i v : Int32} (h1 : ∀ pp mm : Nat, pp + mm ≤ z → i = nI pp → v = nI mm → Q 1 S) (h0 : ¬ (0 ≤ i.toInt ∧ 0 ≤ v.toInt ∧ i.toInt + v.toInt ≤ z) → Q 0 S) : PI x (d + 2) M_X2_hasRow [.ref a, .int i, .int v] S Q := by
  have tn : (nI z).toInt = z := nI_toInt (by omega)
  refine PM_of (by decide +kernel) (Nat.le_of_ble_eq_true rfl) ?_
  show V x (d + 2) M_X2_hasRow (qi Q) (0, 0) 0 [(0, .ref a), (1, .int i), (2, .int v)] [] S
  refine V_iln (pc := 0) dX2_hasRow_0 rfl rfl ?_
  refine V_lt (pc := 1) (t := 30) dX2_hasRow_1 (by decide) (fun h1_ => ?_) (fun h1_ => ?_)
  · have q0 : ¬ (0 ≤ i.toInt ∧ 0 ≤ v.toInt ∧ i.toInt + v.toInt ≤ z) := fun w => by have := lt_toInt.mp h1_; have e : (0 : Int32).toInt = 0 := rfl; omega
    refine V_iconst (pc := 30) (v := 0) dX2_hasRow_30 (by decide) ?_
    refine V_iret (pc := 31) dX2_hasRow_31 rfl rfl ?_
    first | exact h1 pp mm (by omega) rfl rfl | exact h0 q0
  · have q1 : 0 ≤ i.toInt := by have := le_toInt.mp (Int32.not_lt.mp h1_); have e : (0 : Int32).toInt = 0 := rfl; omega
    refine V_iln (pc := 4) dX2_hasRow_4 rfl rfl ?_
    refine V_iconst (pc := 5) (v := 0) dX2_hasRow_5 (by decide) ?_
    refine V_aln (pc := 6) dX2_hasRow_6 rfl rfl ?_
    refine V_gie (pc := 7) 2 1 65 dX2_hasRow_7 (FL_X2_23 rfl) rfl rfl ha rfl ?_
    refine V_cSi0 (pc := 10) (jc_X2_43 dX2_hasRow_10 rfl) rfl rfl (Nat.le_of_ble_eq_true rfl) ?_
    rw [ez]
    refine c_within 0 z (by decide) tn (fun a1 a2 => ?_) (fun a0 => ?_)
    · obtain ⟨mm, hmm, em⟩ := int_n a1 a2 (by omega)
      subst em
      refine V_eq (pc := 13) (t := 30) dX2_hasRow_13 (by decide) (fun h => absurd h (by decide)) (fun _ => ?_)
      refine V_iln (pc := 16) dX2_hasRow_16 rfl rfl ?_
      refine V_aln (pc := 17) dX2_hasRow_17 rfl rfl ?_
      refine V_gie (pc := 18) 2 1 65 dX2_hasRow_18 (FL_X2_23 rfl) rfl rfl ha rfl ?_
      refine V_iln (pc := 21) dX2_hasRow_21 rfl rfl ?_
      refine V_isub (pc := 22) dX2_hasRow_22 ?_
      refine V_cgt (pc := 23) (t := 30) dX2_hasRow_23 (by decide) (fun h23 => ?_) (fun h23 => ?_)
      · rw [ez, nI_sub hmm] at h23
        have w1 := lt_toInt.mp h23
        rw [nI_toInt (by omega)] at w1
        have tm : (nI mm).toInt = mm := nI_toInt (by omega)
        have q0 : ¬ (0 ≤ i.toInt ∧ 0 ≤ (nI mm).toInt ∧ i.toInt + (nI mm).toInt ≤ z) := fun w => by omega
        refine V_iconst (pc := 30) (v := 0) dX2_hasRow_30 (by decide) ?_
        refine V_iret (pc := 31) dX2_hasRow_31 rfl rfl ?_
        first | exact h1 pp mm (by omega) rfl rfl | exact h0 q0
      · rw [ez, nI_sub hmm] at h23
        have w1 := le_toInt.mp (Int32.not_lt.mp h23)
        rw [nI_toInt (by omega)] at w1
        obtain ⟨pp, hpp, ep⟩ := int_n (N := z - mm) q1 (by omega) (by omega)
        subst ep
        refine V_iconst (pc := 26) (v := 1) dX2_hasRow_26 (by decide) ?_
        refine V_goto (pc := 27) (t := 31) dX2_hasRow_27 (by decide) ?_
        refine V_iret (pc := 31) dX2_hasRow_31 rfl rfl ?_
        first | exact h1 pp mm (by omega) rfl rfl | exact h0 q0
    · have q0 : ¬ (0 ≤ i.toInt ∧ 0 ≤ v.toInt ∧ i.toInt + v.toInt ≤ z) := fun w => a0 (by omega)
      refine V_eq (pc := 13) (t := 30) dX2_hasRow_13 (by decide) (fun _ => ?_) (fun h => absurd h (by decide))
      refine V_iconst (pc := 30) (v := 0) dX2_hasRow_30 (by decide) ?_
      refine V_iret (pc := 31) dX2_hasRow_31 rfl rfl ?_
      first | exact h1 pp mm (by omega) rfl rfl | exact h0 q0
set_option maxRecDepth 100000 in
set_option maxHeartbeats 1000000 in
theorem j_fill_L {x : pX} {d : Nat} {S : pS} {b : Nat × Nat} {Q : pS → Prop} {p N : Nat} {v : Int32} (hp : hk S p 10) (hn : gN S p = N) (hN : N < 2 ^ 31) (h : Q (sX S p (fa_fill (fun _ => v) (gX S p) N))) : ∀ (c k : Nat), k + c = N → V x (d + 1) M_J7_fill_53178 (qv Q) b 5 [(0, .ref p), (1, .int v), (2, .int (nI k)), (3, .int (nI N))] [] (sX S p (fa_fill (fun _ => v) (gX S p) k)) := by
  intro c
  induction c with
  | zero =>
    intro k hk 
    refine V_iln (pc := 5) dJ7_fill_53178_5 rfl rfl ?_
    refine V_iln (pc := 6) dJ7_fill_53178_6 rfl rfl ?_
    refine V_cge (pc := 7) (t := 20) dJ7_fill_53178_7 (by decide) (fun h7 => ?_) (fun h7 => ?_)
    · refine V_ret (pc := 20) dJ7_fill_53178_20 rfl ?_
      obtain rfl : k = N := by omega
      exact h
    · exact absurd (nI_le (by omega) (by omega)) h7
  | succ c ih =>
    intro k hk 
    refine V_iln (pc := 5) dJ7_fill_53178_5 rfl rfl ?_
    refine V_iln (pc := 6) dJ7_fill_53178_6 rfl rfl ?_
    refine V_cge (pc := 7) (t := 20) dJ7_fill_53178_7 (by decide) (fun h7 => ?_) (fun h7 => ?_)
    · exact absurd h7 (nI_ge (by omega) (by omega))
    · refine V_aln (pc := 10) dJ7_fill_53178_10 rfl rfl ?_
      refine V_iln (pc := 11) dJ7_fill_53178_11 rfl rfl ?_
      refine V_iln (pc := 12) dJ7_fill_53178_12 rfl rfl ?_
      refine V_ias (pc := 13) (N := N) k dJ7_fill_53178_13 hp hn hN rfl (by omega) ?_
      rw [gX_sX, if_pos rfl, sX_sX, fa_fill_succ (fun _ => v)]
      refine V_inc (pc := 14) (fun y => [(0, .ref p), (1, .int v), (2, .int y), (3, .int (nI N))]) (w := 1) dJ7_fill_53178_14 (by decide) (by decide) rfl (fun _ => rfl) (fun y14 ey14 => ?_)
      obtain rfl : y14 = nI (k + 1) := by rw [ey14]; exact nI_1 _
      refine V_goto (pc := 17) (t := 5) dJ7_fill_53178_17 (by decide) ?_
      exact ih (k + 1) (by omega)
set_option maxRecDepth 100000 in
set_option maxHeartbeats 1000000 in
theorem j_fill {x : pX} {d : Nat} {S : pS} {Q : pS → Prop} {p N : Nat} {v : Int32} (hp : hk S p 10) (hn : gN S p = N) (hN : N < 2 ^ 31) (h : Q (sX S p (fa_fill (fun _ => v) (gX S p) N))) : PV x (d + 1) M_J7_fill_53178 [.ref p, .int v] S Q := by
  refine PM_of (by decide +kernel) (Nat.le_of_ble_eq_true rfl) ?_
  show V x (d + 1) M_J7_fill_53178 (qv Q) (0, 0) 0 [(0, .ref p), (1, .int v)] [] S
  refine V_iconst (pc := 0) (v := 0) dJ7_fill_53178_0 (by decide) ?_
  refine V_isn (pc := 1) (fun y => [(0, .ref p), (1, .int v), (2, .int y)]) dJ7_fill_53178_1 rfl (by decide) (fun _ => rfl) (fun y1 ey1 => ?_)
  obtain rfl : y1 = nI 0 := ey1
  refine V_aln (pc := 2) dJ7_fill_53178_2 rfl rfl ?_
  refine V_len (pc := 3) (N := N) dJ7_fill_53178_3 hp hn ?_
  refine V_isn (pc := 4) (fun y => [(0, .ref p), (1, .int v), (2, .int (nI 0)), (3, .int y)]) dJ7_fill_53178_4 rfl (by decide) (fun _ => rfl) (fun y4 ey4 => ?_)
  subst ey4
  have q := j_fill_L (x := x) (d := d) (b := (0, 0)) hp hn hN h N 0 (by omega)
  rw [fa_fill_0, sX_self] at q
  exact q
set_option maxRecDepth 100000 in
set_option maxHeartbeats 1000000 in
theorem sh_become {x : pX} {d : Nat} {S : pS} {Q : pS → Prop} {a p : Nat} (ha : hk S a 2) (hr : gR S 66 a = some p) (hp : hk S p 10) (hn : gN S p = 24) {s n : Int32} (h : Q (sX (sI (sI S 64 a s) 65 a (hld n 24)) p (fa_fill (fun _ => 0) (gX S p) 24))) : PV x (d + 3) M_X2_become [.ref a, .int s, .int n] S Q := by
  refine PM_of (by decide +kernel) (Nat.le_of_ble_eq_true rfl) ?_
  show V x (d + 3) M_X2_become (qv Q) (0, 0) 0 [(0, .ref a), (1, .int s), (2, .int n)] [] S
  refine V_aln (pc := 0) dX2_become_0 rfl rfl ?_
  refine V_iln (pc := 1) dX2_become_1 rfl rfl ?_
  refine V_pi (pc := 2) 2 0 64 dX2_become_2 (FL_X2_9 rfl) rfl rfl rfl ha ?_
  refine V_aln (pc := 5) dX2_become_5 rfl rfl ?_
  refine V_iln (pc := 6) dX2_become_6 rfl rfl ?_
  refine V_iconst (pc := 7) (v := 0) dX2_become_7 (by decide) ?_
  refine V_bipush (pc := 8) (v := 24) dX2_become_8 (by decide) ?_
  refine V_cSi0 (pc := 10) (jc_X2_19 dX2_become_10 rfl) rfl rfl (Nat.le_of_ble_eq_true rfl) ?_
  refine c_held (by decide) ?_
  refine V_pi (pc := 13) 2 1 65 dX2_become_13 (FL_X2_23 rfl) rfl rfl rfl ha ?_
  refine V_aln (pc := 16) dX2_become_16 rfl rfl ?_
  refine V_gr (pc := 17) 2 2 66 dX2_become_17 (FL_X2_15 rfl) rfl rfl ha hr ?_
  refine V_iconst (pc := 20) (v := 0) dX2_become_20 (by decide) ?_
  refine V_cSv0 (pc := 21) (jc_X2_26 dX2_become_21 rfl) rfl rfl (Nat.le_of_ble_eq_true rfl) ?_
  refine j_fill (N := 24) hp hn (by decide) ?_
  refine V_ret (pc := 24) dX2_become_24 rfl ?_
  exact h
set_option maxRecDepth 100000 in
set_option maxHeartbeats 1000000 in
theorem sh_becomeAs {x : pX} {d : Nat} {S : pS} {Q : pS → Prop} {a p : Nat} (ha : hk S a 2) (hr : gR S 66 a = some p) (hp : hk S p 10) (hn : gN S p = 24) {a2 p2 : Nat} (ha2 : hk S a2 2) (hr2 : gR S 66 a2 = some p2) (hp2 : hk S p2 10) (hn2 : gN S p2 = 24) (hne : a2 ≠ a) (h : Q (sX (sI (sI S 64 a (gI S 64 a2)) 65 a (gI S 65 a2)) p (va_cpy (gX S p2) (gX S p) 0 0 24))) : PV x (d + 1) M_X2_becomeAs [.ref a, .ref a2] S Q := by
  refine PM_of (by decide +kernel) (Nat.le_of_ble_eq_true rfl) ?_
  show V x (d + 1) M_X2_becomeAs (qv Q) (0, 0) 0 [(0, .ref a), (1, .ref a2)] [] S
  refine V_aln (pc := 0) dX2_becomeAs_0 rfl rfl ?_
  refine V_aln (pc := 1) dX2_becomeAs_1 rfl rfl ?_
  refine V_gie (pc := 2) 2 0 64 dX2_becomeAs_2 (FL_X2_9 rfl) rfl rfl ha2 rfl ?_
  refine V_pi (pc := 5) 2 0 64 dX2_becomeAs_5 (FL_X2_9 rfl) rfl rfl rfl ha ?_
  have e65 : gI (sI S 64 a (gI S 64 a2)) 65 a2 = gI S 65 a2 := by rw [gI_sI, if_neg (fun q => hne q.2)]
  refine V_aln (pc := 8) dX2_becomeAs_8 rfl rfl ?_
  refine V_aln (pc := 9) dX2_becomeAs_9 rfl rfl ?_
  refine V_gi (pc := 10) 2 1 65 dX2_becomeAs_10 (FL_X2_23 rfl) rfl rfl ha2 ?_
  refine V_pi (pc := 13) 2 1 65 dX2_becomeAs_13 (FL_X2_23 rfl) rfl rfl rfl ha ?_
  refine V_aln (pc := 16) dX2_becomeAs_16 rfl rfl ?_
  refine V_gr (pc := 17) 2 2 66 dX2_becomeAs_17 (FL_X2_15 rfl) rfl rfl ha2 hr2 ?_
  refine V_iconst (pc := 20) (v := 0) dX2_becomeAs_20 (by decide) ?_
  refine V_aln (pc := 21) dX2_becomeAs_21 rfl rfl ?_
  refine V_gr (pc := 22) 2 2 66 dX2_becomeAs_22 (FL_X2_15 rfl) rfl rfl ha hr ?_
  refine V_iconst (pc := 25) (v := 0) dX2_becomeAs_25 (by decide) ?_
  refine V_bipush (pc := 26) (v := 24) dX2_becomeAs_26 (by decide) ?_
  refine V_acp (pc := 28) 0 0 24 24 24 (ja_X2_32 dX2_becomeAs_28 rfl) (by omega) (Nat.le_of_ble_eq_true rfl) hp2 hp hn2 hn rfl rfl rfl (by decide) (by decide) (by decide) (by decide) ?_
  refine V_ret (pc := 31) dX2_becomeAs_31 rfl ?_
  rw [e65]
  exact h
set_option maxRecDepth 100000 in
set_option maxHeartbeats 1000000 in
theorem t_byteAt {x : pX} {d : Nat} {S : pS} {Q : Int32 → pS → Prop} {a p : Nat} (ha : hk S a 4) (hr : gR S 128 a = some p) (hp : hk S p 10) (hn : gN S p = 96) {L : Nat} (hL : gI S 129 a = nI L) (h96 : L ≤ 96) {i : Int32} (h1 : ∀ k, k < L → i = nI k → (nI k).toInt = k → Q (gX S p k) S) (h0 : ¬ (0 ≤ i.toInt ∧ i.toInt < L) → Q (-1) S) : PI x (d + 1) M_X4_byteAt [.ref a, .int i] S Q := by
  have tn : (nI L).toInt = L := nI_toInt (by omega)
  refine PM_of (by decide +kernel) (Nat.le_of_ble_eq_true rfl) ?_
  show V x (d + 1) M_X4_byteAt (qi Q) (0, 0) 0 [(0, .ref a), (1, .int i)] [] S
  refine V_iln (pc := 0) dX4_byteAt_0 rfl rfl ?_
  refine V_lt (pc := 1) (t := 27) dX4_byteAt_1 (by decide) (fun h1_ => ?_) (fun h1_ => ?_)
  · have q0 : ¬ (0 ≤ i.toInt ∧ i.toInt < L) := fun w => by have := lt_toInt.mp h1_; have e : (0 : Int32).toInt = 0 := rfl; omega
    refine V_iconst (pc := 27) (v := (-1)) dX4_byteAt_27 (by decide) ?_
    refine V_iret (pc := 28) dX4_byteAt_28 rfl rfl ?_
    first | exact h1 k hk rfl e2 | exact h0 q0
  · have q1 : 0 ≤ i.toInt := by have := le_toInt.mp (Int32.not_lt.mp h1_); have e : (0 : Int32).toInt = 0 := rfl; omega
    refine V_iln (pc := 4) dX4_byteAt_4 rfl rfl ?_
    refine V_aln (pc := 5) dX4_byteAt_5 rfl rfl ?_
    refine V_gie (pc := 6) 4 1 129 dX4_byteAt_6 (FL_X4_15 rfl) rfl rfl ha rfl ?_
    refine V_cge (pc := 9) (t := 27) dX4_byteAt_9 (by decide) (fun h9 => ?_) (fun h9 => ?_)
    · have q0 : ¬ (0 ≤ i.toInt ∧ i.toInt < L) := fun w => by rw [hL] at h9; have := le_toInt.mp h9; omega
      refine V_iconst (pc := 27) (v := (-1)) dX4_byteAt_27 (by decide) ?_
      refine V_iret (pc := 28) dX4_byteAt_28 rfl rfl ?_
      first | exact h1 k hk rfl e2 | exact h0 q0
    · have q2 : i.toInt < L := by rw [hL] at h9; have := lt_toInt.mp (Int32.not_le.mp h9); omega
      obtain ⟨k, hk, e1, e2, e3⟩ := idx_of (w := i) (n := L) (by omega) q1 q2
      subst e1
      refine V_iln (pc := 12) dX4_byteAt_12 rfl rfl ?_
      refine V_bipush (pc := 13) (v := 96) dX4_byteAt_13 (by decide) ?_
      refine V_cge (pc := 15) (t := 27) dX4_byteAt_15 (by decide) (fun h15 => ?_) (fun h15 => ?_)
      · exact absurd h15 (nI_ge (b := 96) (by omega) (by decide))
      · refine V_aln (pc := 18) dX4_byteAt_18 rfl rfl ?_
        refine V_gr (pc := 19) 4 0 128 dX4_byteAt_19 (FL_X4_9 rfl) rfl rfl ha hr ?_
        refine V_iln (pc := 22) dX4_byteAt_22 rfl rfl ?_
        refine V_ia (pc := 23) k dX4_byteAt_23 hp hn (by decide) rfl (by omega)  ?_
        refine V_goto (pc := 24) (t := 28) dX4_byteAt_24 (by decide) ?_
        refine V_iret (pc := 28) dX4_byteAt_28 rfl rfl ?_
        first | exact h1 k hk rfl e2 | exact h0 q0
def ad4 (r : Nat → Int32) (l : Nat) (v : Int32) : Nat → Int32 := upd (upd (upd (upd r l (v >>> ((24 : Int32) &&& 31) &&& 255)) (l + 1) (v >>> ((16 : Int32) &&& 31) &&& 255)) (l + 2) (v >>> ((8 : Int32) &&& 31) &&& 255)) (l + 3) (v >>> ((0 : Int32) &&& 31) &&& 255)
set_option maxRecDepth 100000 in
set_option maxHeartbeats 1000000 in
theorem t_add_1 {x : pX} {d : Nat} {S : pS} {b : Nat × Nat} {Q : pS → Prop} {a p : Nat} (ha : hk S a 4) (hr : gR S 128 a = some p) (hp : hk S p 10) (hn : gN S p = 96) {L : Nat} (hL : gI S 129 a = nI L) (hl : L < 96) {v s s2 : Int32} (hs : ¬ s < 0) (e2 : s + (-8) = s2) (kk : ∀ S2, fr (fun b => b = a ∨ b = p) S S2 → gI S2 129 a = nI (L + 1) → gX S2 p = upd (gX S p) L (v >>> (s &&& 31) &&& 255) → V x (d + 1) M_X4_addNumber (qv Q) b 3 [(0, .ref a), (1, .int v), (2, .int s2)] [] S2) : V x (d + 1) M_X4_addNumber (qv Q) b 3 [(0, .ref a), (1, .int v), (2, .int s)] [] S := by
  refine V_iln (pc := 3) dX4_addNumber_3 rfl rfl ?_
  refine V_lt (pc := 4) (t := 48) dX4_addNumber_4 (by decide) (fun h4 => ?_) (fun h4 => ?_)
  · exact absurd h4 hs
  · refine V_aln (pc := 7) dX4_addNumber_7 rfl rfl ?_
    refine V_gie (pc := 8) 4 1 129 dX4_addNumber_8 (FL_X4_15 rfl) rfl rfl ha rfl ?_
    refine V_bipush (pc := 11) (v := 96) dX4_addNumber_11 (by decide) ?_
    refine V_cge (pc := 13) (t := 42) dX4_addNumber_13 (by decide) (fun h13 => ?_) (fun h13 => ?_)
    · exact absurd h13 (by rw [hL]; exact nI_ge (b := 96) hl (by decide))
    · refine V_aln (pc := 16) dX4_addNumber_16 rfl rfl ?_
      refine V_gr (pc := 17) 4 0 128 dX4_addNumber_17 (FL_X4_9 rfl) rfl rfl ha hr ?_
      refine V_aln (pc := 20) dX4_addNumber_20 rfl rfl ?_
      refine V_gie (pc := 21) 4 1 129 dX4_addNumber_21 (FL_X4_15 rfl) rfl rfl ha rfl ?_
      refine V_iln (pc := 24) dX4_addNumber_24 rfl rfl ?_
      refine V_iln (pc := 25) dX4_addNumber_25 rfl rfl ?_
      refine V_ishr (pc := 26) dX4_addNumber_26 ?_
      refine V_sipush (pc := 27) (v := 255) dX4_addNumber_27 (by decide) ?_
      refine V_iand (pc := 30) dX4_addNumber_30 ?_
      refine V_ias (pc := 31) (N := 96) L dX4_addNumber_31 hp hn (by decide) hL hl ?_
      refine V_aln (pc := 32) dX4_addNumber_32 rfl rfl ?_
      refine V_dup (pc := 33) dX4_addNumber_33 rfl ?_
      refine V_gi (pc := 34) 4 1 129 dX4_addNumber_34 (FL_X4_15 rfl) rfl rfl ha ?_
      refine V_iconst (pc := 37) (v := 1) dX4_addNumber_37 (by decide) ?_
      refine V_iadd (pc := 38) dX4_addNumber_38 ?_
      refine V_pi (pc := 39) 4 1 129 dX4_addNumber_39 (FL_X4_15 rfl) rfl rfl rfl ha ?_
      rw [show gI (sX S p (upd (gX S p) L (v >>> (s &&& 31) &&& 255))) 129 a = nI L from hL, nI_1]
      refine V_inc (pc := 42) (fun y => [(0, .ref a), (1, .int v), (2, .int y)]) (w := (-8)) dX4_addNumber_42 (by decide) (by decide) rfl (fun _ => rfl) (fun y42 ey42 => ?_)
      refine V_goto (pc := 45) (t := 3) dX4_addNumber_45 (by decide) ?_
      rw [e2] at ey42; subst ey42
      refine kk _ ((fr.rf.sX (Or.inr rfl) _).sI (Or.inl rfl) _ _) (by rw [gI_sI, if_pos ⟨rfl, rfl⟩]) ?_
      show gX (sX S p _) p = _
      rw [gX_sX, if_pos rfl]
theorem hk_fr {P P2 : pS} {T : Nat → Prop} (h : fr T P P2) {a k : Nat} (q : hk P a k) : hk P2 a k := (hk_sp h.1).mpr q
set_option maxRecDepth 100000 in
set_option maxHeartbeats 1000000 in
theorem t_addNumber {x : pX} {d : Nat} {S : pS} {Q : pS → Prop} {a p : Nat} (ha : hk S a 4) (hr : gR S 128 a = some p) (hp : hk S p 10) (hn : gN S p = 96) {L : Nat} (hL : gI S 129 a = nI L) (hl : L + 4 ≤ 96) {v : Int32} (h : ∀ S2, fr (fun b => b = a ∨ b = p) S S2 → gI S2 129 a = nI (L + 4) → gX S2 p = ad4 (gX S p) L v → Q S2) : PV x (d + 1) M_X4_addNumber [.ref a, .int v] S Q := by
  refine PM_of (by decide +kernel) (Nat.le_of_ble_eq_true rfl) ?_
  show V x (d + 1) M_X4_addNumber (qv Q) (0, 0) 0 [(0, .ref a), (1, .int v)] [] S
  refine V_bipush (pc := 0) (v := 24) dX4_addNumber_0 (by decide) ?_
  refine V_isn (pc := 2) (fun y => [(0, .ref a), (1, .int v), (2, .int y)]) dX4_addNumber_2 rfl (by decide) (fun _ => rfl) (fun y2 ey2 => ?_)
  subst ey2
  refine t_add_1 ha hr hp hn hL (by omega) (v := v) (s := 24) (s2 := 16) (by decide) (by decide) (fun S1 f1 l1 x1 => ?_)
  refine t_add_1 (hk_fr f1 ha) (by rw [gR_sp f1.1]; exact hr) (hk_fr f1 hp) (by rw [gN_sp f1.1]; exact hn) l1 (by omega) (v := v) (s := 16) (s2 := 8) (by decide) (by decide) (fun S2 f2 l2 x2 => ?_)
  replace f2 := f1.tr f2
  refine t_add_1 (hk_fr f2 ha) (by rw [gR_sp f2.1]; exact hr) (hk_fr f2 hp) (by rw [gN_sp f2.1]; exact hn) l2 (by omega) (v := v) (s := 8) (s2 := 0) (by decide) (by decide) (fun S3 f3 l3 x3 => ?_)
  replace f3 := f2.tr f3
  refine t_add_1 (hk_fr f3 ha) (by rw [gR_sp f3.1]; exact hr) (hk_fr f3 hp) (by rw [gN_sp f3.1]; exact hn) l3 (by omega) (v := v) (s := 0) (s2 := (-8)) (by decide) (by decide) (fun S4 f4 l4 x4 => ?_)
  replace f4 := f3.tr f4
  refine V_iln (pc := 3) dX4_addNumber_3 rfl rfl ?_
  refine V_lt (pc := 4) (t := 48) dX4_addNumber_4 (by decide) (fun _ => ?_) (fun q => absurd (show (-8 : Int32) < 0 by decide) q)
  refine V_ret (pc := 48) dX4_addNumber_48 rfl ?_
  refine h S4 f4 l4 ?_
  rw [x4, x3, x2, x1]
  rfl
theorem eucl {g l c : Nat} (hl : l ≤ g) (h0 : 0 < l) (h : g * l < 2 ^ (c + 1)) : l * (g % l) < 2 ^ c := by
  have h1 : 2 * (g % l) < g := by
    have q1 := Nat.mod_lt g h0
    have q2 : g % l + l * (g / l) = g := Nat.mod_add_div g l
    have q3 : 1 ≤ g / l := (Nat.le_div_iff_mul_le h0).mpr (by omega)
    have q4 : l * 1 ≤ l * (g / l) := Nat.mul_le_mul_left l q3
    omega
  have h2 : l * (2 * (g % l)) ≤ l * g := Nat.mul_le_mul_left l (by omega)
  have h3 : l * (2 * (g % l)) < l * g := Nat.mul_lt_mul_of_pos_left h1 h0
  rw [Nat.pow_succ] at h
  have e : l * (2 * (g % l)) = 2 * (l * (g % l)) := by rw [Nat.mul_left_comm]
  rw [e, Nat.mul_comm l g] at h3
  omega
def euI (c g l : Nat) : Prop := (l ≤ g ∧ g * l < 2 ^ c) ∨ c = 64
set_option maxRecDepth 100000 in
set_option maxHeartbeats 1000000 in
theorem c_gcd_L {x : pX} {d : Nat} {S : pS} {b : Nat × Nat} {Q : Int32 → pS → Prop} {va vb : Int32} {G : Nat} (h : Q (nI G) S) : ∀ (c k : Nat), k + c = 64 → ∀ (g l : Nat), g ≤ 9990 → l ≤ 9990 → Nat.gcd g l = G → euI c g l → V x (d + 1) M_X8_commonDivisor (qi Q) b 7 [(0, .int va), (1, .int vb), (2, .int (nI g)), (3, .int (nI l)), (4, .int (nI k))] [] S := by
  intro c
  induction c with
  | zero =>
    intro k hk g l h1 h2 hg hi
    refine V_il (pc := 7) dX8_commonDivisor_7 rfl ?_
    refine V_bipush (pc := 9) (v := 64) dX8_commonDivisor_9 (by decide) ?_
    refine V_cge (pc := 11) (t := 34) dX8_commonDivisor_11 (by decide) (fun h11 => ?_) (fun h11 => ?_)
    · refine V_iln (pc := 34) dX8_commonDivisor_34 rfl rfl ?_
      refine V_iret (pc := 35) dX8_commonDivisor_35 rfl rfl ?_
      have l0 : l = 0 := by
        rcases hi with ⟨q1, q2⟩ | q
        · rcases Nat.eq_zero_or_pos l with w | w
          · exact w
          · have : 0 < g * l := Nat.mul_pos (by omega) w
            omega
        · omega
      subst l0
      rw [Nat.gcd_zero_right] at hg
      subst hg
      exact h
    · exact absurd (nI_le (a := 64) (by omega) (by omega)) h11
  | succ c ih =>
    intro k hk g l h1 h2 hg hi
    refine V_il (pc := 7) dX8_commonDivisor_7 rfl ?_
    refine V_bipush (pc := 9) (v := 64) dX8_commonDivisor_9 (by decide) ?_
    refine V_cge (pc := 11) (t := 34) dX8_commonDivisor_11 (by decide) (fun h11 => ?_) (fun h11 => ?_)
    · exact absurd h11 (nI_ge (b := 64) (by omega) (by decide))
    · refine V_iln (pc := 14) dX8_commonDivisor_14 rfl rfl ?_
      refine V_eq (pc := 15) (t := 34) dX8_commonDivisor_15 (by decide) (fun h15 => ?_) (fun h15 => ?_)
      · have l0 : l = 0 := (nI_eq (b := 0) (by omega) (by decide)).mp h15
        subst l0
        rw [Nat.gcd_zero_right] at hg
        subst hg
        refine V_iln (pc := 34) dX8_commonDivisor_34 rfl rfl ?_
        refine V_iret (pc := 35) dX8_commonDivisor_35 rfl rfl ?_
        exact h
      · have lp : 0 < l := Nat.pos_of_ne_zero (fun w => h15 (by rw [w]; rfl))
        refine V_iln (pc := 18) dX8_commonDivisor_18 rfl rfl ?_
        refine V_iln (pc := 19) dX8_commonDivisor_19 rfl rfl ?_
        refine V_irem (pc := 20) dX8_commonDivisor_20 h15 ?_
        refine V_is (pc := 21) (fun y => [(0, .int va), (1, .int vb), (2, .int (nI g)), (3, .int (nI l)), (4, .int (nI k)), (5, .int y)]) dX8_commonDivisor_21 (by decide) (fun _ => rfl) (fun y21 ey21 => ?_)
        obtain rfl : y21 = nI (g % l) := by rw [ey21]; exact pk_rem (by omega) lp (by omega)
        refine V_iln (pc := 23) dX8_commonDivisor_23 rfl rfl ?_
        refine V_isn (pc := 24) (fun y => [(0, .int va), (1, .int vb), (2, .int y), (3, .int (nI l)), (4, .int (nI k)), (5, .int (nI (g % l)))]) dX8_commonDivisor_24 rfl (by decide) (fun _ => rfl) (fun y24 ey24 => ?_)
        subst ey24
        refine V_il (pc := 25) dX8_commonDivisor_25 rfl ?_
        refine V_isn (pc := 27) (fun y => [(0, .int va), (1, .int vb), (2, .int (nI l)), (3, .int y), (4, .int (nI k)), (5, .int (nI (g % l)))]) dX8_commonDivisor_27 rfl (by decide) (fun _ => rfl) (fun y27 ey27 => ?_)
        subst ey27
        refine V_inc (pc := 28) (fun y => [(0, .int va), (1, .int vb), (2, .int (nI l)), (3, .int (nI (g % l))), (4, .int y), (5, .int (nI (g % l)))]) (w := 1) dX8_commonDivisor_28 (by decide) (by decide) rfl (fun _ => rfl) (fun y28 ey28 => ?_)
        obtain rfl : y28 = nI (k + 1) := by rw [ey28]; exact nI_1 _
        refine V_goto (pc := 31) (t := 7) dX8_commonDivisor_31 (by decide) ?_
        refine V_lp [0, 1, 2, 3, 4] (ls' := [(0, .int va), (1, .int vb), (2, .int (nI l)), (3, .int (nI (g % l))), (4, .int (nI (k + 1)))]) rfl ?_
        have ml := Nat.mod_lt g lp
        refine ih (k + 1) (by omega) l (g % l) (by omega) (by omega) (by rw [← hg, Nat.gcd_comm l, ← Nat.gcd_rec, Nat.gcd_comm]) (Or.inl ⟨by omega, ?_⟩)
        rcases hi with ⟨q1, q2⟩ | q
        · exact eucl q1 lp q2
        · have : l * (g % l) ≤ 9990 * 9990 := Nat.mul_le_mul h2 (by omega)
          obtain rfl : c = 63 := by omega
          omega
set_option maxRecDepth 100000 in
set_option maxHeartbeats 1000000 in
theorem c_gcd {x : pX} {d : Nat} {S : pS} {Q : Int32 → pS → Prop} {a b : Nat} (ha : a ≤ 9990) (hb : b ≤ 9990) (h : Q (nI (Nat.gcd a b)) S) : PI x (d + 1) M_X8_commonDivisor [.int (nI a), .int (nI b)] S Q := by
  refine PM_of (by decide +kernel) (Nat.le_of_ble_eq_true rfl) ?_
  show V x (d + 1) M_X8_commonDivisor (qi Q) (0, 0) 0 [(0, .int (nI a)), (1, .int (nI b))] [] S
  refine V_iln (pc := 0) dX8_commonDivisor_0 rfl rfl ?_
  refine V_isn (pc := 1) (fun y => [(0, .int (nI a)), (1, .int (nI b)), (2, .int y)]) dX8_commonDivisor_1 rfl (by decide) (fun _ => rfl) (fun y1 ey1 => ?_)
  subst ey1
  refine V_iln (pc := 2) dX8_commonDivisor_2 rfl rfl ?_
  refine V_isn (pc := 3) (fun y => [(0, .int (nI a)), (1, .int (nI b)), (2, .int (nI a)), (3, .int y)]) dX8_commonDivisor_3 rfl (by decide) (fun _ => rfl) (fun y3 ey3 => ?_)
  subst ey3
  refine V_iconst (pc := 4) (v := 0) dX8_commonDivisor_4 (by decide) ?_
  refine V_is (pc := 5) (fun y => [(0, .int (nI a)), (1, .int (nI b)), (2, .int (nI a)), (3, .int (nI b)), (4, .int y)]) dX8_commonDivisor_5 (by decide) (fun _ => rfl) (fun y5 ey5 => ?_)
  obtain rfl : y5 = nI 0 := ey5
  exact c_gcd_L h 64 0 (by omega) a b ha hb rfl (Or.inr rfl)
def ush (v k : Int32) : Int32 := (v.toUInt32 >>> (k.toUInt32 &&& Int32.toUInt32 31)).toInt32
def jb1 (v : Int32) : Int32 := v - (ush v 1 &&& 1431655765)
def jb2 (v : Int32) : Int32 := (v &&& 858993459) + (ush v 2 &&& 858993459)
def jb3 (v : Int32) : Int32 := (v + ush v 4) &&& 252645135
def jb4 (v : Int32) : Int32 := v + ush v 8
def jb5 (v : Int32) : Int32 := v + ush v 16
def jbc (v : Int32) : Int32 := jb5 (jb4 (jb3 (jb2 (jb1 v)))) &&& 63
theorem jbc_ones : ∀ L, L < 1024 → jbc (nI L) = nI (fones L 10) := by decide +kernel
set_option maxRecDepth 100000 in
set_option maxHeartbeats 1000000 in
theorem j_bitCount {x : pX} {d : Nat} {S : pS} {Q : Int32 → pS → Prop} {v : Int32} {r : Int32} (hr : jbc v = r) (h : Q r S) : PI x (d + 1) M_J6_bitCount_0f7a4 [.int v] S Q := by
  refine PM_of (by decide +kernel) (Nat.le_of_ble_eq_true rfl) ?_
  show V x (d + 1) M_J6_bitCount_0f7a4 (qi Q) (0, 0) 0 [(0, .int v)] [] S
  refine V_iln (pc := 0) dJ6_bitCount_0f7a4_0 rfl rfl ?_
  refine V_iln (pc := 1) dJ6_bitCount_0f7a4_1 rfl rfl ?_
  refine V_iconst (pc := 2) (v := 1) dJ6_bitCount_0f7a4_2 (by decide) ?_
  refine V_iushr (pc := 3) dJ6_bitCount_0f7a4_3 ?_
  refine V_ldcw (pc := 4) dJ6_bitCount_0f7a4_4 (KC_J6_265 rfl) ?_
  refine V_iand (pc := 7) dJ6_bitCount_0f7a4_7 ?_
  refine V_isub (pc := 8) dJ6_bitCount_0f7a4_8 ?_
  refine V_isn (pc := 9) (fun y => [(0, .int y)]) dJ6_bitCount_0f7a4_9 rfl (by decide) (fun _ => rfl) (fun y9 ey9 => ?_)
  refine V_iln (pc := 10) dJ6_bitCount_0f7a4_10 rfl rfl ?_
  refine V_ldcw (pc := 11) dJ6_bitCount_0f7a4_11 (KC_J6_266 rfl) ?_
  refine V_iand (pc := 14) dJ6_bitCount_0f7a4_14 ?_
  refine V_iln (pc := 15) dJ6_bitCount_0f7a4_15 rfl rfl ?_
  refine V_iconst (pc := 16) (v := 2) dJ6_bitCount_0f7a4_16 (by decide) ?_
  refine V_iushr (pc := 17) dJ6_bitCount_0f7a4_17 ?_
  refine V_ldcw (pc := 18) dJ6_bitCount_0f7a4_18 (KC_J6_266 rfl) ?_
  refine V_iand (pc := 21) dJ6_bitCount_0f7a4_21 ?_
  refine V_iadd (pc := 22) dJ6_bitCount_0f7a4_22 ?_
  refine V_isn (pc := 23) (fun y => [(0, .int y)]) dJ6_bitCount_0f7a4_23 rfl (by decide) (fun _ => rfl) (fun y23 ey23 => ?_)
  refine V_iln (pc := 24) dJ6_bitCount_0f7a4_24 rfl rfl ?_
  refine V_iln (pc := 25) dJ6_bitCount_0f7a4_25 rfl rfl ?_
  refine V_iconst (pc := 26) (v := 4) dJ6_bitCount_0f7a4_26 (by decide) ?_
  refine V_iushr (pc := 27) dJ6_bitCount_0f7a4_27 ?_
  refine V_iadd (pc := 28) dJ6_bitCount_0f7a4_28 ?_
  refine V_ldcw (pc := 29) dJ6_bitCount_0f7a4_29 (KC_J6_267 rfl) ?_
  refine V_iand (pc := 32) dJ6_bitCount_0f7a4_32 ?_
  refine V_isn (pc := 33) (fun y => [(0, .int y)]) dJ6_bitCount_0f7a4_33 rfl (by decide) (fun _ => rfl) (fun y33 ey33 => ?_)
  refine V_iln (pc := 34) dJ6_bitCount_0f7a4_34 rfl rfl ?_
  refine V_iln (pc := 35) dJ6_bitCount_0f7a4_35 rfl rfl ?_
  refine V_bipush (pc := 36) (v := 8) dJ6_bitCount_0f7a4_36 (by decide) ?_
  refine V_iushr (pc := 38) dJ6_bitCount_0f7a4_38 ?_
  refine V_iadd (pc := 39) dJ6_bitCount_0f7a4_39 ?_
  refine V_isn (pc := 40) (fun y => [(0, .int y)]) dJ6_bitCount_0f7a4_40 rfl (by decide) (fun _ => rfl) (fun y40 ey40 => ?_)
  refine V_iln (pc := 41) dJ6_bitCount_0f7a4_41 rfl rfl ?_
  refine V_iln (pc := 42) dJ6_bitCount_0f7a4_42 rfl rfl ?_
  refine V_bipush (pc := 43) (v := 16) dJ6_bitCount_0f7a4_43 (by decide) ?_
  refine V_iushr (pc := 45) dJ6_bitCount_0f7a4_45 ?_
  refine V_iadd (pc := 46) dJ6_bitCount_0f7a4_46 ?_
  refine V_isn (pc := 47) (fun y => [(0, .int y)]) dJ6_bitCount_0f7a4_47 rfl (by decide) (fun _ => rfl) (fun y47 ey47 => ?_)
  refine V_iln (pc := 48) dJ6_bitCount_0f7a4_48 rfl rfl ?_
  refine V_bipush (pc := 49) (v := 63) dJ6_bitCount_0f7a4_49 (by decide) ?_
  refine V_iand (pc := 51) dJ6_bitCount_0f7a4_51 ?_
  refine V_iret (pc := 52) dJ6_bitCount_0f7a4_52 rfl rfl ?_
  have e : y47 &&& 63 = jbc v := by rw [ey47, ey40, ey33, ey23, ey9]; rfl
  rw [e, hr]
  exact h
