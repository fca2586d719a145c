/-! ===== the class: small methods ===== -/
def s4 (S : pS) (a : Nat) (k s g t : Int32) : pS := sI (sI (sI (sI S 192 a k) 193 a s) 194 a g) 195 a t
theorem lt_toInt {a b : Int32} : a < b ↔ a.toInt < b.toInt := Int32.lt_iff_toInt_lt
theorem le_toInt {a b : Int32} : a ≤ b ↔ a.toInt ≤ b.toInt := Int32.le_iff_toInt_le
set_option maxRecDepth 100000 in
set_option maxHeartbeats 4000000 in
theorem c_within {x : pX} {d : Nat} {S : pS} {Q : Int32 → pS → Prop} {a l u : Int32} (lo hi : Int) (hl : l.toInt = lo) (hu : u.toInt = hi) (h1 : lo ≤ a.toInt → a.toInt ≤ hi → Q 1 S) (h0 : ¬ (lo ≤ a.toInt ∧ a.toInt ≤ hi) → Q 0 S) : PI x (d + 1) M_X8_within [.int a, .int l, .int u] S Q := by
  refine PM_of (by decide +kernel) (Nat.le_of_ble_eq_true rfl) ?_
  show V x (d + 1) M_X8_within (qi Q) (0, 0) 0 [(0, .int a), (1, .int l), (2, .int u)] [] S
  refine V_iln (pc := 0) dX8_within_0 rfl rfl ?_
  refine V_iln (pc := 1) dX8_within_1 rfl rfl ?_
  refine V_clt (pc := 2) (t := 14) dX8_within_2 (by decide) (fun h2 => ?_) (fun h2 => ?_)
  · have q := lt_toInt.mp h2
    have n0 : ¬ (lo ≤ a.toInt ∧ a.toInt ≤ hi) := by omega
    refine V_iconst (pc := 14) (v := 0) dX8_within_14 (by decide) ?_
    refine V_iret (pc := 15) dX8_within_15 rfl rfl ?_
    first | exact h0 n0 | exact h1 (by omega) (by omega)
  · have q := le_toInt.mp (Int32.not_lt.mp h2)
    refine V_iln (pc := 5) dX8_within_5 rfl rfl ?_
    refine V_iln (pc := 6) dX8_within_6 rfl rfl ?_
    refine V_cgt (pc := 7) (t := 14) dX8_within_7 (by decide) (fun h7 => ?_) (fun h7 => ?_)
    · have q2 := lt_toInt.mp h7
      have n0 : ¬ (lo ≤ a.toInt ∧ a.toInt ≤ hi) := by omega
      refine V_iconst (pc := 14) (v := 0) dX8_within_14 (by decide) ?_
      refine V_iret (pc := 15) dX8_within_15 rfl rfl ?_
      first | exact h0 n0 | exact h1 (by omega) (by omega)
    · have q2 := le_toInt.mp (Int32.not_lt.mp h7)
      refine V_iconst (pc := 10) (v := 1) dX8_within_10 (by decide) ?_
      refine V_goto (pc := 11) (t := 15) dX8_within_11 (by decide) ?_
      refine V_iret (pc := 15) dX8_within_15 rfl rfl ?_
      first | exact h0 n0 | exact h1 (by omega) (by omega)
set_option maxRecDepth 100000 in
set_option maxHeartbeats 4000000 in
theorem c_isKind {x : pX} {d : Nat} {S : pS} {Q : Int32 → pS → Prop} {a : Int32} (h1 : 0 ≤ a.toInt → a.toInt ≤ 5 → Q 1 S) (h0 : ¬ (0 ≤ a.toInt ∧ a.toInt ≤ 5) → Q 0 S) : PI x (d + 2) M_X8_isKind [.int a] S Q := by
  refine PM_of (by decide +kernel) (Nat.le_of_ble_eq_true rfl) ?_
  show V x (d + 2) M_X8_isKind (qi Q) (0, 0) 0 [(0, .int a)] [] S
  refine V_iln (pc := 0) dX8_isKind_0 rfl rfl ?_
  refine V_iconst (pc := 1) (v := 0) dX8_isKind_1 (by decide) ?_
  refine V_iconst (pc := 2) (v := 5) dX8_isKind_2 (by decide) ?_
  refine V_cSi0 (pc := 3) (jc_X8_56 dX8_isKind_3 rfl) rfl rfl (Nat.le_of_ble_eq_true rfl) ?_
  refine c_within 0 5 (by decide) (by decide) (fun a1 a2 => ?_) (fun a0 => ?_)
  · refine V_iret (pc := 6) dX8_isKind_6 rfl rfl ?_
    first | exact h1 a1 a2 | exact h0 a0
  · refine V_iret (pc := 6) dX8_isKind_6 rfl rfl ?_
    first | exact h1 a1 a2 | exact h0 a0
set_option maxRecDepth 100000 in
set_option maxHeartbeats 4000000 in
theorem c_held {x : pX} {d : Nat} {S : pS} {Q : Int32 → pS → Prop} {v u : Int32} (hu : 0 ≤ u) (h : Q (hld v u) S) : PI x (d + 2) M_X8_held [.int v, .int 0, .int u] S Q := by
  refine PM_of (by decide +kernel) (Nat.le_of_ble_eq_true rfl) ?_
  show V x (d + 2) M_X8_held (qi Q) (0, 0) 0 [(0, .int v), (1, .int 0), (2, .int u)] [] S
  refine V_iln (pc := 0) dX8_held_0 rfl rfl ?_
  refine V_iln (pc := 1) dX8_held_1 rfl rfl ?_
  refine V_iln (pc := 2) dX8_held_2 rfl rfl ?_
  refine V_min (pc := 3) (jm_X8_338 dX8_held_3 rfl) (by omega) (Nat.le_of_ble_eq_true rfl) ?_
  refine V_max (pc := 6) (jm_X8_343 dX8_held_6 rfl) (by omega) (Nat.le_of_ble_eq_true rfl) ?_
  refine V_iret (pc := 9) dX8_held_9 rfl rfl ?_
  have e : (if 0 < (if v < u then v else u) then (if v < u then v else u) else 0) = hld v u := by
    unfold hld
    by_cases q : v < u
    · rw [if_pos q, if_neg (Int32.not_lt.mpr (Int32.le_of_lt q))]
      by_cases q2 : 0 < v
      · rw [if_pos q2, if_neg (Int32.not_lt.mpr (Int32.le_of_lt q2))]
      · rw [if_neg q2]
        by_cases q3 : v < 0
        · rw [if_pos q3]
        · rw [if_neg q3]; exact Int32.le_antisymm (Int32.not_lt.mp q3) (Int32.not_lt.mp q2)
    · rw [if_neg q]
      by_cases q2 : v < 0
      · exact absurd (Int32.lt_of_lt_of_le q2 hu) q
      · rw [if_neg q2]
        by_cases q3 : u < v
        · rw [if_pos q3]
          by_cases q4 : 0 < u
          · rw [if_pos q4]
          · rw [if_neg q4]; exact Int32.le_antisymm hu (Int32.not_lt.mp q4)
        · rw [if_neg q3]
          have e2 : v = u := Int32.le_antisymm (Int32.not_lt.mp q3) (Int32.not_lt.mp q)
          subst e2
          by_cases q4 : 0 < v
          · rw [if_pos q4]
          · rw [if_neg q4]; exact Int32.le_antisymm hu (Int32.not_lt.mp q4)
  rw [e]; exact h
set_option maxRecDepth 100000 in
set_option maxHeartbeats 4000000 in
theorem c_becomeAs {x : pX} {d : Nat} {S : pS} {Q : pS → Prop} {a b : Nat} (ha : hk S a 6) (hb : hk S b 6) (h : Q (s4 S a (gI S 192 b) (gI S 193 b) (gI S 194 b) (gI S 195 b))) : PV x (d + 1) M_X6_becomeAs [.ref a, .ref b] S Q := by
  refine PM_of (by decide +kernel) (Nat.le_of_ble_eq_true rfl) ?_
  show V x (d + 1) M_X6_becomeAs (qv Q) (0, 0) 0 [(0, .ref a), (1, .ref b)] [] S
  refine V_aln (pc := 0) dX6_becomeAs_0 rfl rfl ?_
  refine V_aln (pc := 1) dX6_becomeAs_1 rfl rfl ?_
  refine V_gi (pc := 2) 6 0 192 dX6_becomeAs_2 (FL_X6_9 rfl) rfl rfl hb ?_
  refine V_pi (pc := 5) 6 0 192 dX6_becomeAs_5 (FL_X6_9 rfl) rfl rfl rfl ha ?_
  refine V_aln (pc := 8) dX6_becomeAs_8 rfl rfl ?_
  refine V_aln (pc := 9) dX6_becomeAs_9 rfl rfl ?_
  refine V_gi (pc := 10) 6 1 193 dX6_becomeAs_10 (FL_X6_15 rfl) rfl rfl hb ?_
  refine V_pi (pc := 13) 6 1 193 dX6_becomeAs_13 (FL_X6_15 rfl) rfl rfl rfl ha ?_
  refine V_aln (pc := 16) dX6_becomeAs_16 rfl rfl ?_
  refine V_aln (pc := 17) dX6_becomeAs_17 rfl rfl ?_
  refine V_gi (pc := 18) 6 2 194 dX6_becomeAs_18 (FL_X6_18 rfl) rfl rfl hb ?_
  refine V_pi (pc := 21) 6 2 194 dX6_becomeAs_21 (FL_X6_18 rfl) rfl rfl rfl ha ?_
  refine V_aln (pc := 24) dX6_becomeAs_24 rfl rfl ?_
  refine V_aln (pc := 25) dX6_becomeAs_25 rfl rfl ?_
  refine V_gi (pc := 26) 6 3 195 dX6_becomeAs_26 (FL_X6_21 rfl) rfl rfl hb ?_
  refine V_pi (pc := 29) 6 3 195 dX6_becomeAs_29 (FL_X6_21 rfl) rfl rfl rfl ha ?_
  refine V_ret (pc := 32) dX6_becomeAs_32 rfl ?_
  exact h
set_option maxRecDepth 100000 in
set_option maxHeartbeats 4000000 in
theorem c_stampAnew {x : pX} {d : Nat} {S : pS} {Q : pS → Prop} {a : Nat} {k s : Int32} (ha : hk S a 6) (h : Q (s4 S a k s s 0)) : PV x (d + 1) M_X6_stampAnew [.ref a, .int k, .int s] S Q := by
  refine PM_of (by decide +kernel) (Nat.le_of_ble_eq_true rfl) ?_
  show V x (d + 1) M_X6_stampAnew (qv Q) (0, 0) 0 [(0, .ref a), (1, .int k), (2, .int s)] [] S
  refine V_aln (pc := 0) dX6_stampAnew_0 rfl rfl ?_
  refine V_iln (pc := 1) dX6_stampAnew_1 rfl rfl ?_
  refine V_pi (pc := 2) 6 0 192 dX6_stampAnew_2 (FL_X6_9 rfl) rfl rfl rfl ha ?_
  refine V_aln (pc := 5) dX6_stampAnew_5 rfl rfl ?_
  refine V_iln (pc := 6) dX6_stampAnew_6 rfl rfl ?_
  refine V_pi (pc := 7) 6 1 193 dX6_stampAnew_7 (FL_X6_15 rfl) rfl rfl rfl ha ?_
  refine V_aln (pc := 10) dX6_stampAnew_10 rfl rfl ?_
  refine V_iln (pc := 11) dX6_stampAnew_11 rfl rfl ?_
  refine V_pi (pc := 12) 6 2 194 dX6_stampAnew_12 (FL_X6_18 rfl) rfl rfl rfl ha ?_
  refine V_aln (pc := 15) dX6_stampAnew_15 rfl rfl ?_
  refine V_iconst (pc := 16) (v := 0) dX6_stampAnew_16 (by decide) ?_
  refine V_pi (pc := 17) 6 3 195 dX6_stampAnew_17 (FL_X6_21 rfl) rfl rfl rfl ha ?_
  refine V_ret (pc := 20) dX6_stampAnew_20 rfl ?_
  exact h
set_option maxRecDepth 100000 in
set_option maxHeartbeats 4000000 in
theorem c_worth {x : pX} {d : Nat} {S : pS} {Q : Int32 → pS → Prop} {a : Nat} (ha : hk S a 6) (h : Q (fworth (gI S 192 a) (gI S 194 a) (gI S 195 a)) S) : PI x (d + 1) M_X6_worth [.ref a] S Q := by
  unfold fworth at h
  refine PM_of (by decide +kernel) (Nat.le_of_ble_eq_true rfl) ?_
  show V x (d + 1) M_X6_worth (qi Q) (0, 0) 0 [(0, .ref a)] [] S
  refine V_aln (pc := 0) dX6_worth_0 rfl rfl ?_
  refine V_gi (pc := 1) 6 0 192 dX6_worth_1 (FL_X6_9 rfl) rfl rfl ha ?_
  refine V_tab (pc := 4) (t := 79) [40, 59, 47, 66, 76] dX6_worth_4 (by decide) (by decide) (by decide) (fun i4 q4 hq4 he4 => ?_) (fun ho4 => ?_)
  · match i4, hq4, he4 with
    | 0, hq, he => 
      cases hq
      have e4 : gI S 192 a = (1 : Int32) := Int32.toInt_inj.mp (by rw [he]; decide)
      rw [e4, if_pos rfl] at h
      refine V_aln (pc := 40) dX6_worth_40 rfl rfl ?_
      refine V_gi (pc := 41) 6 2 194 dX6_worth_41 (FL_X6_18 rfl) rfl rfl ha ?_
      refine V_iconst (pc := 44) (v := 2) dX6_worth_44 (by decide) ?_
      refine V_isub (pc := 45) dX6_worth_45 ?_
      refine V_iret (pc := 46) dX6_worth_46 rfl rfl ?_
      exact h
    | 1, hq, he => 
      cases hq
      have e4 : gI S 192 a = (2 : Int32) := Int32.toInt_inj.mp (by rw [he]; decide)
      rw [e4, if_neg (by decide), if_pos rfl] at h
      refine V_iconst (pc := 59) (v := 2) dX6_worth_59 (by decide) ?_
      refine V_aln (pc := 60) dX6_worth_60 rfl rfl ?_
      refine V_gi (pc := 61) 6 2 194 dX6_worth_61 (FL_X6_18 rfl) rfl rfl ha ?_
      refine V_imul (pc := 64) dX6_worth_64 ?_
      refine V_iret (pc := 65) dX6_worth_65 rfl rfl ?_
      exact h
    | 2, hq, he => 
      cases hq
      have e4 : gI S 192 a = (3 : Int32) := Int32.toInt_inj.mp (by rw [he]; decide)
      rw [e4, if_neg (by decide), if_neg (by decide), if_pos rfl] at h
      refine V_aln (pc := 47) dX6_worth_47 rfl rfl ?_
      refine V_gi (pc := 48) 6 2 194 dX6_worth_48 (FL_X6_18 rfl) rfl rfl ha ?_
      refine V_iconst (pc := 51) (v := 2) dX6_worth_51 (by decide) ?_
      refine V_isub (pc := 52) dX6_worth_52 ?_
      refine V_aln (pc := 53) dX6_worth_53 rfl rfl ?_
      refine V_gi (pc := 54) 6 3 195 dX6_worth_54 (FL_X6_21 rfl) rfl rfl ha ?_
      refine V_isub (pc := 57) dX6_worth_57 ?_
      refine V_iret (pc := 58) dX6_worth_58 rfl rfl ?_
      exact h
    | 3, hq, he => 
      cases hq
      have e4 : gI S 192 a = (4 : Int32) := Int32.toInt_inj.mp (by rw [he]; decide)
      rw [e4, if_neg (by decide), if_neg (by decide), if_neg (by decide), if_pos rfl] at h
      refine V_iconst (pc := 66) (v := 2) dX6_worth_66 (by decide) ?_
      refine V_aln (pc := 67) dX6_worth_67 rfl rfl ?_
      refine V_gi (pc := 68) 6 2 194 dX6_worth_68 (FL_X6_18 rfl) rfl rfl ha ?_
      refine V_imul (pc := 71) dX6_worth_71 ?_
      refine V_bipush (pc := 72) (v := 100) dX6_worth_72 (by decide) ?_
      refine V_iadd (pc := 74) dX6_worth_74 ?_
      refine V_iret (pc := 75) dX6_worth_75 rfl rfl ?_
      exact h
    | 4, hq, he => 
      cases hq
      have e4 : gI S 192 a = (5 : Int32) := Int32.toInt_inj.mp (by rw [he]; decide)
      rw [e4, if_neg (by decide), if_neg (by decide), if_neg (by decide), if_neg (by decide), if_pos rfl] at h
      refine V_bipush (pc := 76) (v := 7) dX6_worth_76 (by decide) ?_
      refine V_iret (pc := 78) dX6_worth_78 rfl rfl ?_
      exact h
    | n + 5, hq, _ => simp at hq
  · have ho4 : (gI S 192 a).toInt < 1 ∨ 6 ≤ (gI S 192 a).toInt := by have q := ho4; simp only [List.length_cons, List.length_nil] at q; omega
    rw [if_neg (fun q => by rw [q] at ho4; revert ho4; decide), if_neg (fun q => by rw [q] at ho4; revert ho4; decide), if_neg (fun q => by rw [q] at ho4; revert ho4; decide), if_neg (fun q => by rw [q] at ho4; revert ho4; decide), if_neg (fun q => by rw [q] at ho4; revert ho4; decide)] at h
    refine V_aln (pc := 79) dX6_worth_79 rfl rfl ?_
    refine V_gi (pc := 80) 6 2 194 dX6_worth_80 (FL_X6_18 rfl) rfl rfl ha ?_
    refine V_iret (pc := 83) dX6_worth_83 rfl rfl ?_
    exact h
theorem dbl (p : Int32) : 2 * (p + 1) = 2 * p + 2 := by
  rw [Int32.mul_add]; rfl
set_option maxRecDepth 100000 in
set_option maxHeartbeats 4000000 in
theorem c_lossBy {x : pX} {d : Nat} {S : pS} {Q : Int32 → pS → Prop} {a : Nat} {p : Int32} (ha : hk S a 6) (h : Q (fkind (gI S 192 a) p (gI S 195 a)) S) : PI x (d + 1) M_X6_lossBy [.ref a, .int p] S Q := by
  unfold fkind at h
  refine PM_of (by decide +kernel) (Nat.le_of_ble_eq_true rfl) ?_
  show V x (d + 1) M_X6_lossBy (qi Q) (0, 0) 0 [(0, .ref a), (1, .int p)] [] S
  refine V_aln (pc := 0) dX6_lossBy_0 rfl rfl ?_
  refine V_gi (pc := 1) 6 0 192 dX6_lossBy_1 (FL_X6_9 rfl) rfl rfl ha ?_
  refine V_tab (pc := 4) (t := 73) [40, 50, 44, 54, 71] dX6_lossBy_4 (by decide) (by decide) (by decide) (fun i4 q4 hq4 he4 => ?_) (fun ho4 => ?_)
  · match i4, hq4, he4 with
    | 0, hq, he => 
      cases hq
      have e4 : gI S 192 a = (1 : Int32) := Int32.toInt_inj.mp (by rw [he]; decide)
      rw [e4, if_pos rfl] at h
      refine V_iln (pc := 40) dX6_lossBy_40 rfl rfl ?_
      refine V_iconst (pc := 41) (v := 1) dX6_lossBy_41 (by decide) ?_
      refine V_iadd (pc := 42) dX6_lossBy_42 ?_
      refine V_iret (pc := 43) dX6_lossBy_43 rfl rfl ?_
      exact h
    | 1, hq, he => 
      cases hq
      have e4 : gI S 192 a = (2 : Int32) := Int32.toInt_inj.mp (by rw [he]; decide)
      rw [e4, if_neg (by decide), if_pos rfl] at h
      refine V_iln (pc := 50) dX6_lossBy_50 rfl rfl ?_
      refine V_iconst (pc := 51) (v := 2) dX6_lossBy_51 (by decide) ?_
      refine V_idiv (pc := 52) dX6_lossBy_52 (by decide) ?_
      refine V_iret (pc := 53) dX6_lossBy_53 rfl rfl ?_
      exact h
    | 2, hq, he => 
      cases hq
      have e4 : gI S 192 a = (3 : Int32) := Int32.toInt_inj.mp (by rw [he]; decide)
      rw [e4, if_neg (by decide), if_neg (by decide), if_pos rfl] at h
      refine V_iconst (pc := 44) (v := 2) dX6_lossBy_44 (by decide) ?_
      refine V_iln (pc := 45) dX6_lossBy_45 rfl rfl ?_
      refine V_iconst (pc := 46) (v := 1) dX6_lossBy_46 (by decide) ?_
      refine V_iadd (pc := 47) dX6_lossBy_47 ?_
      refine V_imul (pc := 48) dX6_lossBy_48 ?_
      refine V_iret (pc := 49) dX6_lossBy_49 rfl rfl ?_
      rw [dbl]; exact h
    | 3, hq, he => 
      cases hq
      have e4 : gI S 192 a = (4 : Int32) := Int32.toInt_inj.mp (by rw [he]; decide)
      rw [e4, if_neg (by decide), if_neg (by decide), if_neg (by decide), if_pos rfl] at h
      refine V_aln (pc := 54) dX6_lossBy_54 rfl rfl ?_
      refine V_gi (pc := 55) 6 3 195 dX6_lossBy_55 (FL_X6_21 rfl) rfl rfl ha ?_
      refine V_iconst (pc := 58) (v := 2) dX6_lossBy_58 (by decide) ?_
      refine V_irem (pc := 59) dX6_lossBy_59 (by decide) ?_
      refine V_ne (pc := 60) (t := 69) dX6_lossBy_60 (by decide) (fun h60 => ?_) (fun h60 => ?_)
      · rw [if_neg h60] at h
        refine V_iconst (pc := 69) (v := 0) dX6_lossBy_69 (by decide) ?_
        refine V_iret (pc := 70) dX6_lossBy_70 rfl rfl ?_
        exact h
      · rw [if_pos h60] at h
        refine V_iln (pc := 63) dX6_lossBy_63 rfl rfl ?_
        refine V_iconst (pc := 64) (v := 2) dX6_lossBy_64 (by decide) ?_
        refine V_idiv (pc := 65) dX6_lossBy_65 (by decide) ?_
        refine V_goto (pc := 66) (t := 70) dX6_lossBy_66 (by decide) ?_
        refine V_iret (pc := 70) dX6_lossBy_70 rfl rfl ?_
        exact h
    | 4, hq, he => 
      cases hq
      have e4 : gI S 192 a = (5 : Int32) := Int32.toInt_inj.mp (by rw [he]; decide)
      rw [e4, if_neg (by decide), if_neg (by decide), if_neg (by decide), if_neg (by decide), if_pos rfl] at h
      refine V_iconst (pc := 71) (v := 0) dX6_lossBy_71 (by decide) ?_
      refine V_iret (pc := 72) dX6_lossBy_72 rfl rfl ?_
      exact h
    | n + 5, hq, _ => simp at hq
  · have ho4 : (gI S 192 a).toInt < 1 ∨ 6 ≤ (gI S 192 a).toInt := by have q := ho4; simp only [List.length_cons, List.length_nil] at q; omega
    rw [if_neg (fun q => by rw [q] at ho4; revert ho4; decide), if_neg (fun q => by rw [q] at ho4; revert ho4; decide), if_neg (fun q => by rw [q] at ho4; revert ho4; decide), if_neg (fun q => by rw [q] at ho4; revert ho4; decide), if_neg (fun q => by rw [q] at ho4; revert ho4; decide)] at h
    refine V_iln (pc := 73) dX6_lossBy_73 rfl rfl ?_
    refine V_iret (pc := 74) dX6_lossBy_74 rfl rfl ?_
    exact h
def abv (k : Nat) : Int32 := if k = 0 then -1 else if k = 3 then 1 else if k = 4 then 2 else 0
/-- the row ABOVE, outside the pool -/
def XA (x : pX) : Prop := ∃ ab : Nat, (RX8, "ABOVE", "[I", Value.ref ab) ∈ x.1 ∧ (FieldType.int, ab, 6, fun k => Value.int (abv k)) ∈ x.2.2.1
set_option maxRecDepth 100000 in
set_option maxHeartbeats 4000000 in
theorem c_isOf_0 {x : pX} {d : Nat} {S : pS} {Q : Int32 → pS → Prop} {b : Nat × Nat} {a : Nat} {q : Int32} {ab : Nat} (hx1 : (RX8, "ABOVE", "[I", Value.ref ab) ∈ x.1) (hx2 : (FieldType.int, ab, 6, fun k => Value.int (abv k)) ∈ x.2.2.1) (h1 : fisOf 0 q → Q 1 S) (h0 : ¬ fisOf 0 q → Q 0 S) : V x (d + 1) M_X6_isOf (qi Q) b 7 [(0, .ref a), (1, .int q), (2, .int 0), (3, .int (nI 0))] [] S := by
  refine V_iln (pc := 7) dX6_isOf_7 rfl rfl ?_
  refine V_bipush (pc := 8) (v := 6) dX6_isOf_8 (by decide) ?_
  refine V_cge (pc := 10) (t := 42) dX6_isOf_10 (by decide) (fun h => absurd h (by decide)) (fun _ => ?_)
  refine V_iln (pc := 13) dX6_isOf_13 rfl rfl ?_
  refine V_lt (pc := 14) (t := 42) dX6_isOf_14 (by decide) (fun h => absurd h (by decide)) (fun _ => ?_)
  refine V_iln (pc := 17) dX6_isOf_17 rfl rfl ?_
  refine V_bipush (pc := 18) (v := 6) dX6_isOf_18 (by decide) ?_
  refine V_cge (pc := 20) (t := 42) dX6_isOf_20 (by decide) (fun h => absurd h (by decide)) (fun _ => ?_)
  refine V_iln (pc := 23) dX6_isOf_23 rfl rfl ?_
  refine V_iln (pc := 24) dX6_isOf_24 rfl rfl ?_
  refine V_cne (pc := 25) (t := 30) dX6_isOf_25 (by decide) (fun n0 => ?_) (fun e => ?_)
  · refine V_gsN (pc := 30) dX6_isOf_30 rfl hx1 ?_
    refine V_iln (pc := 33) dX6_isOf_33 rfl rfl ?_
    refine V_iax (pc := 34) 0 dX6_isOf_34 hx2 (by decide) rfl (by decide) ?_
    refine V_isn (pc := 35) (fun y => [(0, .ref a), (1, .int q), (2, .int y), (3, .int (nI 0))]) dX6_isOf_35 rfl (by decide) (fun _ => rfl) (fun y35 ey35 => ?_)
    obtain rfl : y35 = (-1) := ey35
    refine V_inc (pc := 36) (fun y => [(0, .ref a), (1, .int q), (2, .int (-1)), (3, .int y)]) (w := 1) dX6_isOf_36 (by decide) (by decide) rfl (fun _ => rfl) (fun y36 ey36 => ?_)
    obtain rfl : y36 = nI 1 := ey36
    refine V_goto (pc := 39) (t := 7) dX6_isOf_39 (by decide) ?_
    refine V_iln (pc := 7) dX6_isOf_7 rfl rfl ?_
    refine V_bipush (pc := 8) (v := 6) dX6_isOf_8 (by decide) ?_
    refine V_cge (pc := 10) (t := 42) dX6_isOf_10 (by decide) (fun h => absurd h (by decide)) (fun _ => ?_)
    refine V_iln (pc := 13) dX6_isOf_13 rfl rfl ?_
    refine V_lt (pc := 14) (t := 42) dX6_isOf_14 (by decide) (fun _ => ?_) (fun h => absurd (by decide) h)
    refine V_iconst (pc := 42) (v := 0) dX6_isOf_42 (by decide) ?_
    refine V_iret (pc := 43) dX6_isOf_43 rfl rfl ?_
    refine h0 ?_
    rintro (e | e | ⟨e, e2⟩ | ⟨e, e2⟩)
    · exact n0 e
    · exact n0 e.symm
    · first | exact absurd e2 (by decide) | exact n1 e.symm
    · first | exact absurd e2 (by decide) | exact n2 e.symm
  · refine V_iconst (pc := 28) (v := 1) dX6_isOf_28 (by decide) ?_
    refine V_iret (pc := 29) dX6_isOf_29 rfl rfl ?_
    exact h1 (Or.inl e)
set_option maxRecDepth 100000 in
set_option maxHeartbeats 4000000 in
theorem c_isOf_1 {x : pX} {d : Nat} {S : pS} {Q : Int32 → pS → Prop} {b : Nat × Nat} {a : Nat} {q : Int32} {ab : Nat} (hx1 : (RX8, "ABOVE", "[I", Value.ref ab) ∈ x.1) (hx2 : (FieldType.int, ab, 6, fun k => Value.int (abv k)) ∈ x.2.2.1) (h1 : fisOf 1 q → Q 1 S) (h0 : ¬ fisOf 1 q → Q 0 S) : V x (d + 1) M_X6_isOf (qi Q) b 7 [(0, .ref a), (1, .int q), (2, .int 1), (3, .int (nI 0))] [] S := by
  refine V_iln (pc := 7) dX6_isOf_7 rfl rfl ?_
  refine V_bipush (pc := 8) (v := 6) dX6_isOf_8 (by decide) ?_
  refine V_cge (pc := 10) (t := 42) dX6_isOf_10 (by decide) (fun h => absurd h (by decide)) (fun _ => ?_)
  refine V_iln (pc := 13) dX6_isOf_13 rfl rfl ?_
  refine V_lt (pc := 14) (t := 42) dX6_isOf_14 (by decide) (fun h => absurd h (by decide)) (fun _ => ?_)
  refine V_iln (pc := 17) dX6_isOf_17 rfl rfl ?_
  refine V_bipush (pc := 18) (v := 6) dX6_isOf_18 (by decide) ?_
  refine V_cge (pc := 20) (t := 42) dX6_isOf_20 (by decide) (fun h => absurd h (by decide)) (fun _ => ?_)
  refine V_iln (pc := 23) dX6_isOf_23 rfl rfl ?_
  refine V_iln (pc := 24) dX6_isOf_24 rfl rfl ?_
  refine V_cne (pc := 25) (t := 30) dX6_isOf_25 (by decide) (fun n1 => ?_) (fun e => ?_)
  · refine V_gsN (pc := 30) dX6_isOf_30 rfl hx1 ?_
    refine V_iln (pc := 33) dX6_isOf_33 rfl rfl ?_
    refine V_iax (pc := 34) 1 dX6_isOf_34 hx2 (by decide) rfl (by decide) ?_
    refine V_isn (pc := 35) (fun y => [(0, .ref a), (1, .int q), (2, .int y), (3, .int (nI 0))]) dX6_isOf_35 rfl (by decide) (fun _ => rfl) (fun y35 ey35 => ?_)
    obtain rfl : y35 = 0 := ey35
    refine V_inc (pc := 36) (fun y => [(0, .ref a), (1, .int q), (2, .int 0), (3, .int y)]) (w := 1) dX6_isOf_36 (by decide) (by decide) rfl (fun _ => rfl) (fun y36 ey36 => ?_)
    obtain rfl : y36 = nI 1 := ey36
    refine V_goto (pc := 39) (t := 7) dX6_isOf_39 (by decide) ?_
    refine V_iln (pc := 7) dX6_isOf_7 rfl rfl ?_
    refine V_bipush (pc := 8) (v := 6) dX6_isOf_8 (by decide) ?_
    refine V_cge (pc := 10) (t := 42) dX6_isOf_10 (by decide) (fun h => absurd h (by decide)) (fun _ => ?_)
    refine V_iln (pc := 13) dX6_isOf_13 rfl rfl ?_
    refine V_lt (pc := 14) (t := 42) dX6_isOf_14 (by decide) (fun h => absurd h (by decide)) (fun _ => ?_)
    refine V_iln (pc := 17) dX6_isOf_17 rfl rfl ?_
    refine V_bipush (pc := 18) (v := 6) dX6_isOf_18 (by decide) ?_
    refine V_cge (pc := 20) (t := 42) dX6_isOf_20 (by decide) (fun h => absurd h (by decide)) (fun _ => ?_)
    refine V_iln (pc := 23) dX6_isOf_23 rfl rfl ?_
    refine V_iln (pc := 24) dX6_isOf_24 rfl rfl ?_
    refine V_cne (pc := 25) (t := 30) dX6_isOf_25 (by decide) (fun n0 => ?_) (fun e => ?_)
    · refine V_gsN (pc := 30) dX6_isOf_30 rfl hx1 ?_
      refine V_iln (pc := 33) dX6_isOf_33 rfl rfl ?_
      refine V_iax (pc := 34) 0 dX6_isOf_34 hx2 (by decide) rfl (by decide) ?_
      refine V_isn (pc := 35) (fun y => [(0, .ref a), (1, .int q), (2, .int y), (3, .int (nI 1))]) dX6_isOf_35 rfl (by decide) (fun _ => rfl) (fun y35 ey35 => ?_)
      obtain rfl : y35 = (-1) := ey35
      refine V_inc (pc := 36) (fun y => [(0, .ref a), (1, .int q), (2, .int (-1)), (3, .int y)]) (w := 1) dX6_isOf_36 (by decide) (by decide) rfl (fun _ => rfl) (fun y36 ey36 => ?_)
      obtain rfl : y36 = nI 2 := ey36
      refine V_goto (pc := 39) (t := 7) dX6_isOf_39 (by decide) ?_
      refine V_iln (pc := 7) dX6_isOf_7 rfl rfl ?_
      refine V_bipush (pc := 8) (v := 6) dX6_isOf_8 (by decide) ?_
      refine V_cge (pc := 10) (t := 42) dX6_isOf_10 (by decide) (fun h => absurd h (by decide)) (fun _ => ?_)
      refine V_iln (pc := 13) dX6_isOf_13 rfl rfl ?_
      refine V_lt (pc := 14) (t := 42) dX6_isOf_14 (by decide) (fun _ => ?_) (fun h => absurd (by decide) h)
      refine V_iconst (pc := 42) (v := 0) dX6_isOf_42 (by decide) ?_
      refine V_iret (pc := 43) dX6_isOf_43 rfl rfl ?_
      refine h0 ?_
      rintro (e | e | ⟨e, e2⟩ | ⟨e, e2⟩)
      · exact n1 e
      · exact n0 e.symm
      · first | exact absurd e2 (by decide) | exact n1 e.symm
      · first | exact absurd e2 (by decide) | exact n2 e.symm
    · refine V_iconst (pc := 28) (v := 1) dX6_isOf_28 (by decide) ?_
      refine V_iret (pc := 29) dX6_isOf_29 rfl rfl ?_
      exact h1 (Or.inr (Or.inl e.symm))
  · refine V_iconst (pc := 28) (v := 1) dX6_isOf_28 (by decide) ?_
    refine V_iret (pc := 29) dX6_isOf_29 rfl rfl ?_
    exact h1 (Or.inl e)
set_option maxRecDepth 100000 in
set_option maxHeartbeats 4000000 in
theorem c_isOf_2 {x : pX} {d : Nat} {S : pS} {Q : Int32 → pS → Prop} {b : Nat × Nat} {a : Nat} {q : Int32} {ab : Nat} (hx1 : (RX8, "ABOVE", "[I", Value.ref ab) ∈ x.1) (hx2 : (FieldType.int, ab, 6, fun k => Value.int (abv k)) ∈ x.2.2.1) (h1 : fisOf 2 q → Q 1 S) (h0 : ¬ fisOf 2 q → Q 0 S) : V x (d + 1) M_X6_isOf (qi Q) b 7 [(0, .ref a), (1, .int q), (2, .int 2), (3, .int (nI 0))] [] S := by
  refine V_iln (pc := 7) dX6_isOf_7 rfl rfl ?_
  refine V_bipush (pc := 8) (v := 6) dX6_isOf_8 (by decide) ?_
  refine V_cge (pc := 10) (t := 42) dX6_isOf_10 (by decide) (fun h => absurd h (by decide)) (fun _ => ?_)
  refine V_iln (pc := 13) dX6_isOf_13 rfl rfl ?_
  refine V_lt (pc := 14) (t := 42) dX6_isOf_14 (by decide) (fun h => absurd h (by decide)) (fun _ => ?_)
  refine V_iln (pc := 17) dX6_isOf_17 rfl rfl ?_
  refine V_bipush (pc := 18) (v := 6) dX6_isOf_18 (by decide) ?_
  refine V_cge (pc := 20) (t := 42) dX6_isOf_20 (by decide) (fun h => absurd h (by decide)) (fun _ => ?_)
  refine V_iln (pc := 23) dX6_isOf_23 rfl rfl ?_
  refine V_iln (pc := 24) dX6_isOf_24 rfl rfl ?_
  refine V_cne (pc := 25) (t := 30) dX6_isOf_25 (by decide) (fun n2 => ?_) (fun e => ?_)
  · refine V_gsN (pc := 30) dX6_isOf_30 rfl hx1 ?_
    refine V_iln (pc := 33) dX6_isOf_33 rfl rfl ?_
    refine V_iax (pc := 34) 2 dX6_isOf_34 hx2 (by decide) rfl (by decide) ?_
    refine V_isn (pc := 35) (fun y => [(0, .ref a), (1, .int q), (2, .int y), (3, .int (nI 0))]) dX6_isOf_35 rfl (by decide) (fun _ => rfl) (fun y35 ey35 => ?_)
    obtain rfl : y35 = 0 := ey35
    refine V_inc (pc := 36) (fun y => [(0, .ref a), (1, .int q), (2, .int 0), (3, .int y)]) (w := 1) dX6_isOf_36 (by decide) (by decide) rfl (fun _ => rfl) (fun y36 ey36 => ?_)
    obtain rfl : y36 = nI 1 := ey36
    refine V_goto (pc := 39) (t := 7) dX6_isOf_39 (by decide) ?_
    refine V_iln (pc := 7) dX6_isOf_7 rfl rfl ?_
    refine V_bipush (pc := 8) (v := 6) dX6_isOf_8 (by decide) ?_
    refine V_cge (pc := 10) (t := 42) dX6_isOf_10 (by decide) (fun h => absurd h (by decide)) (fun _ => ?_)
    refine V_iln (pc := 13) dX6_isOf_13 rfl rfl ?_
    refine V_lt (pc := 14) (t := 42) dX6_isOf_14 (by decide) (fun h => absurd h (by decide)) (fun _ => ?_)
    refine V_iln (pc := 17) dX6_isOf_17 rfl rfl ?_
    refine V_bipush (pc := 18) (v := 6) dX6_isOf_18 (by decide) ?_
    refine V_cge (pc := 20) (t := 42) dX6_isOf_20 (by decide) (fun h => absurd h (by decide)) (fun _ => ?_)
    refine V_iln (pc := 23) dX6_isOf_23 rfl rfl ?_
    refine V_iln (pc := 24) dX6_isOf_24 rfl rfl ?_
    refine V_cne (pc := 25) (t := 30) dX6_isOf_25 (by decide) (fun n0 => ?_) (fun e => ?_)
    · refine V_gsN (pc := 30) dX6_isOf_30 rfl hx1 ?_
      refine V_iln (pc := 33) dX6_isOf_33 rfl rfl ?_
      refine V_iax (pc := 34) 0 dX6_isOf_34 hx2 (by decide) rfl (by decide) ?_
      refine V_isn (pc := 35) (fun y => [(0, .ref a), (1, .int q), (2, .int y), (3, .int (nI 1))]) dX6_isOf_35 rfl (by decide) (fun _ => rfl) (fun y35 ey35 => ?_)
      obtain rfl : y35 = (-1) := ey35
      refine V_inc (pc := 36) (fun y => [(0, .ref a), (1, .int q), (2, .int (-1)), (3, .int y)]) (w := 1) dX6_isOf_36 (by decide) (by decide) rfl (fun _ => rfl) (fun y36 ey36 => ?_)
      obtain rfl : y36 = nI 2 := ey36
      refine V_goto (pc := 39) (t := 7) dX6_isOf_39 (by decide) ?_
      refine V_iln (pc := 7) dX6_isOf_7 rfl rfl ?_
      refine V_bipush (pc := 8) (v := 6) dX6_isOf_8 (by decide) ?_
      refine V_cge (pc := 10) (t := 42) dX6_isOf_10 (by decide) (fun h => absurd h (by decide)) (fun _ => ?_)
      refine V_iln (pc := 13) dX6_isOf_13 rfl rfl ?_
      refine V_lt (pc := 14) (t := 42) dX6_isOf_14 (by decide) (fun _ => ?_) (fun h => absurd (by decide) h)
      refine V_iconst (pc := 42) (v := 0) dX6_isOf_42 (by decide) ?_
      refine V_iret (pc := 43) dX6_isOf_43 rfl rfl ?_
      refine h0 ?_
      rintro (e | e | ⟨e, e2⟩ | ⟨e, e2⟩)
      · exact n2 e
      · exact n0 e.symm
      · first | exact absurd e2 (by decide) | exact n1 e.symm
      · first | exact absurd e2 (by decide) | exact n2 e.symm
    · refine V_iconst (pc := 28) (v := 1) dX6_isOf_28 (by decide) ?_
      refine V_iret (pc := 29) dX6_isOf_29 rfl rfl ?_
      exact h1 (Or.inr (Or.inl e.symm))
  · refine V_iconst (pc := 28) (v := 1) dX6_isOf_28 (by decide) ?_
    refine V_iret (pc := 29) dX6_isOf_29 rfl rfl ?_
    exact h1 (Or.inl e)
set_option maxRecDepth 100000 in
set_option maxHeartbeats 4000000 in
theorem c_isOf_3 {x : pX} {d : Nat} {S : pS} {Q : Int32 → pS → Prop} {b : Nat × Nat} {a : Nat} {q : Int32} {ab : Nat} (hx1 : (RX8, "ABOVE", "[I", Value.ref ab) ∈ x.1) (hx2 : (FieldType.int, ab, 6, fun k => Value.int (abv k)) ∈ x.2.2.1) (h1 : fisOf 3 q → Q 1 S) (h0 : ¬ fisOf 3 q → Q 0 S) : V x (d + 1) M_X6_isOf (qi Q) b 7 [(0, .ref a), (1, .int q), (2, .int 3), (3, .int (nI 0))] [] S := by
  refine V_iln (pc := 7) dX6_isOf_7 rfl rfl ?_
  refine V_bipush (pc := 8) (v := 6) dX6_isOf_8 (by decide) ?_
  refine V_cge (pc := 10) (t := 42) dX6_isOf_10 (by decide) (fun h => absurd h (by decide)) (fun _ => ?_)
  refine V_iln (pc := 13) dX6_isOf_13 rfl rfl ?_
  refine V_lt (pc := 14) (t := 42) dX6_isOf_14 (by decide) (fun h => absurd h (by decide)) (fun _ => ?_)
  refine V_iln (pc := 17) dX6_isOf_17 rfl rfl ?_
  refine V_bipush (pc := 18) (v := 6) dX6_isOf_18 (by decide) ?_
  refine V_cge (pc := 20) (t := 42) dX6_isOf_20 (by decide) (fun h => absurd h (by decide)) (fun _ => ?_)
  refine V_iln (pc := 23) dX6_isOf_23 rfl rfl ?_
  refine V_iln (pc := 24) dX6_isOf_24 rfl rfl ?_
  refine V_cne (pc := 25) (t := 30) dX6_isOf_25 (by decide) (fun n3 => ?_) (fun e => ?_)
  · refine V_gsN (pc := 30) dX6_isOf_30 rfl hx1 ?_
    refine V_iln (pc := 33) dX6_isOf_33 rfl rfl ?_
    refine V_iax (pc := 34) 3 dX6_isOf_34 hx2 (by decide) rfl (by decide) ?_
    refine V_isn (pc := 35) (fun y => [(0, .ref a), (1, .int q), (2, .int y), (3, .int (nI 0))]) dX6_isOf_35 rfl (by decide) (fun _ => rfl) (fun y35 ey35 => ?_)
    obtain rfl : y35 = 1 := ey35
    refine V_inc (pc := 36) (fun y => [(0, .ref a), (1, .int q), (2, .int 1), (3, .int y)]) (w := 1) dX6_isOf_36 (by decide) (by decide) rfl (fun _ => rfl) (fun y36 ey36 => ?_)
    obtain rfl : y36 = nI 1 := ey36
    refine V_goto (pc := 39) (t := 7) dX6_isOf_39 (by decide) ?_
    refine V_iln (pc := 7) dX6_isOf_7 rfl rfl ?_
    refine V_bipush (pc := 8) (v := 6) dX6_isOf_8 (by decide) ?_
    refine V_cge (pc := 10) (t := 42) dX6_isOf_10 (by decide) (fun h => absurd h (by decide)) (fun _ => ?_)
    refine V_iln (pc := 13) dX6_isOf_13 rfl rfl ?_
    refine V_lt (pc := 14) (t := 42) dX6_isOf_14 (by decide) (fun h => absurd h (by decide)) (fun _ => ?_)
    refine V_iln (pc := 17) dX6_isOf_17 rfl rfl ?_
    refine V_bipush (pc := 18) (v := 6) dX6_isOf_18 (by decide) ?_
    refine V_cge (pc := 20) (t := 42) dX6_isOf_20 (by decide) (fun h => absurd h (by decide)) (fun _ => ?_)
    refine V_iln (pc := 23) dX6_isOf_23 rfl rfl ?_
    refine V_iln (pc := 24) dX6_isOf_24 rfl rfl ?_
    refine V_cne (pc := 25) (t := 30) dX6_isOf_25 (by decide) (fun n1 => ?_) (fun e => ?_)
    · refine V_gsN (pc := 30) dX6_isOf_30 rfl hx1 ?_
      refine V_iln (pc := 33) dX6_isOf_33 rfl rfl ?_
      refine V_iax (pc := 34) 1 dX6_isOf_34 hx2 (by decide) rfl (by decide) ?_
      refine V_isn (pc := 35) (fun y => [(0, .ref a), (1, .int q), (2, .int y), (3, .int (nI 1))]) dX6_isOf_35 rfl (by decide) (fun _ => rfl) (fun y35 ey35 => ?_)
      obtain rfl : y35 = 0 := ey35
      refine V_inc (pc := 36) (fun y => [(0, .ref a), (1, .int q), (2, .int 0), (3, .int y)]) (w := 1) dX6_isOf_36 (by decide) (by decide) rfl (fun _ => rfl) (fun y36 ey36 => ?_)
      obtain rfl : y36 = nI 2 := ey36
      refine V_goto (pc := 39) (t := 7) dX6_isOf_39 (by decide) ?_
      refine V_iln (pc := 7) dX6_isOf_7 rfl rfl ?_
      refine V_bipush (pc := 8) (v := 6) dX6_isOf_8 (by decide) ?_
      refine V_cge (pc := 10) (t := 42) dX6_isOf_10 (by decide) (fun h => absurd h (by decide)) (fun _ => ?_)
      refine V_iln (pc := 13) dX6_isOf_13 rfl rfl ?_
      refine V_lt (pc := 14) (t := 42) dX6_isOf_14 (by decide) (fun h => absurd h (by decide)) (fun _ => ?_)
      refine V_iln (pc := 17) dX6_isOf_17 rfl rfl ?_
      refine V_bipush (pc := 18) (v := 6) dX6_isOf_18 (by decide) ?_
      refine V_cge (pc := 20) (t := 42) dX6_isOf_20 (by decide) (fun h => absurd h (by decide)) (fun _ => ?_)
      refine V_iln (pc := 23) dX6_isOf_23 rfl rfl ?_
      refine V_iln (pc := 24) dX6_isOf_24 rfl rfl ?_
      refine V_cne (pc := 25) (t := 30) dX6_isOf_25 (by decide) (fun n0 => ?_) (fun e => ?_)
      · refine V_gsN (pc := 30) dX6_isOf_30 rfl hx1 ?_
        refine V_iln (pc := 33) dX6_isOf_33 rfl rfl ?_
        refine V_iax (pc := 34) 0 dX6_isOf_34 hx2 (by decide) rfl (by decide) ?_
        refine V_isn (pc := 35) (fun y => [(0, .ref a), (1, .int q), (2, .int y), (3, .int (nI 2))]) dX6_isOf_35 rfl (by decide) (fun _ => rfl) (fun y35 ey35 => ?_)
        obtain rfl : y35 = (-1) := ey35
        refine V_inc (pc := 36) (fun y => [(0, .ref a), (1, .int q), (2, .int (-1)), (3, .int y)]) (w := 1) dX6_isOf_36 (by decide) (by decide) rfl (fun _ => rfl) (fun y36 ey36 => ?_)
        obtain rfl : y36 = nI 3 := ey36
        refine V_goto (pc := 39) (t := 7) dX6_isOf_39 (by decide) ?_
        refine V_iln (pc := 7) dX6_isOf_7 rfl rfl ?_
        refine V_bipush (pc := 8) (v := 6) dX6_isOf_8 (by decide) ?_
        refine V_cge (pc := 10) (t := 42) dX6_isOf_10 (by decide) (fun h => absurd h (by decide)) (fun _ => ?_)
        refine V_iln (pc := 13) dX6_isOf_13 rfl rfl ?_
        refine V_lt (pc := 14) (t := 42) dX6_isOf_14 (by decide) (fun _ => ?_) (fun h => absurd (by decide) h)
        refine V_iconst (pc := 42) (v := 0) dX6_isOf_42 (by decide) ?_
        refine V_iret (pc := 43) dX6_isOf_43 rfl rfl ?_
        refine h0 ?_
        rintro (e | e | ⟨e, e2⟩ | ⟨e, e2⟩)
        · exact n3 e
        · exact n0 e.symm
        · first | exact absurd e2 (by decide) | exact n1 e.symm
        · first | exact absurd e2 (by decide) | exact n2 e.symm
      · refine V_iconst (pc := 28) (v := 1) dX6_isOf_28 (by decide) ?_
        refine V_iret (pc := 29) dX6_isOf_29 rfl rfl ?_
        exact h1 (Or.inr (Or.inl e.symm))
    · refine V_iconst (pc := 28) (v := 1) dX6_isOf_28 (by decide) ?_
      refine V_iret (pc := 29) dX6_isOf_29 rfl rfl ?_
      exact h1 (Or.inr (Or.inr (Or.inl ⟨e.symm, rfl⟩)))
  · refine V_iconst (pc := 28) (v := 1) dX6_isOf_28 (by decide) ?_
    refine V_iret (pc := 29) dX6_isOf_29 rfl rfl ?_
    exact h1 (Or.inl e)
set_option maxRecDepth 100000 in
set_option maxHeartbeats 4000000 in
theorem c_isOf_4 {x : pX} {d : Nat} {S : pS} {Q : Int32 → pS → Prop} {b : Nat × Nat} {a : Nat} {q : Int32} {ab : Nat} (hx1 : (RX8, "ABOVE", "[I", Value.ref ab) ∈ x.1) (hx2 : (FieldType.int, ab, 6, fun k => Value.int (abv k)) ∈ x.2.2.1) (h1 : fisOf 4 q → Q 1 S) (h0 : ¬ fisOf 4 q → Q 0 S) : V x (d + 1) M_X6_isOf (qi Q) b 7 [(0, .ref a), (1, .int q), (2, .int 4), (3, .int (nI 0))] [] S := by
  refine V_iln (pc := 7) dX6_isOf_7 rfl rfl ?_
  refine V_bipush (pc := 8) (v := 6) dX6_isOf_8 (by decide) ?_
  refine V_cge (pc := 10) (t := 42) dX6_isOf_10 (by decide) (fun h => absurd h (by decide)) (fun _ => ?_)
  refine V_iln (pc := 13) dX6_isOf_13 rfl rfl ?_
  refine V_lt (pc := 14) (t := 42) dX6_isOf_14 (by decide) (fun h => absurd h (by decide)) (fun _ => ?_)
  refine V_iln (pc := 17) dX6_isOf_17 rfl rfl ?_
  refine V_bipush (pc := 18) (v := 6) dX6_isOf_18 (by decide) ?_
  refine V_cge (pc := 20) (t := 42) dX6_isOf_20 (by decide) (fun h => absurd h (by decide)) (fun _ => ?_)
  refine V_iln (pc := 23) dX6_isOf_23 rfl rfl ?_
  refine V_iln (pc := 24) dX6_isOf_24 rfl rfl ?_
  refine V_cne (pc := 25) (t := 30) dX6_isOf_25 (by decide) (fun n4 => ?_) (fun e => ?_)
  · refine V_gsN (pc := 30) dX6_isOf_30 rfl hx1 ?_
    refine V_iln (pc := 33) dX6_isOf_33 rfl rfl ?_
    refine V_iax (pc := 34) 4 dX6_isOf_34 hx2 (by decide) rfl (by decide) ?_
    refine V_isn (pc := 35) (fun y => [(0, .ref a), (1, .int q), (2, .int y), (3, .int (nI 0))]) dX6_isOf_35 rfl (by decide) (fun _ => rfl) (fun y35 ey35 => ?_)
    obtain rfl : y35 = 2 := ey35
    refine V_inc (pc := 36) (fun y => [(0, .ref a), (1, .int q), (2, .int 2), (3, .int y)]) (w := 1) dX6_isOf_36 (by decide) (by decide) rfl (fun _ => rfl) (fun y36 ey36 => ?_)
    obtain rfl : y36 = nI 1 := ey36
    refine V_goto (pc := 39) (t := 7) dX6_isOf_39 (by decide) ?_
    refine V_iln (pc := 7) dX6_isOf_7 rfl rfl ?_
    refine V_bipush (pc := 8) (v := 6) dX6_isOf_8 (by decide) ?_
    refine V_cge (pc := 10) (t := 42) dX6_isOf_10 (by decide) (fun h => absurd h (by decide)) (fun _ => ?_)
    refine V_iln (pc := 13) dX6_isOf_13 rfl rfl ?_
    refine V_lt (pc := 14) (t := 42) dX6_isOf_14 (by decide) (fun h => absurd h (by decide)) (fun _ => ?_)
    refine V_iln (pc := 17) dX6_isOf_17 rfl rfl ?_
    refine V_bipush (pc := 18) (v := 6) dX6_isOf_18 (by decide) ?_
    refine V_cge (pc := 20) (t := 42) dX6_isOf_20 (by decide) (fun h => absurd h (by decide)) (fun _ => ?_)
    refine V_iln (pc := 23) dX6_isOf_23 rfl rfl ?_
    refine V_iln (pc := 24) dX6_isOf_24 rfl rfl ?_
    refine V_cne (pc := 25) (t := 30) dX6_isOf_25 (by decide) (fun n2 => ?_) (fun e => ?_)
    · refine V_gsN (pc := 30) dX6_isOf_30 rfl hx1 ?_
      refine V_iln (pc := 33) dX6_isOf_33 rfl rfl ?_
      refine V_iax (pc := 34) 2 dX6_isOf_34 hx2 (by decide) rfl (by decide) ?_
      refine V_isn (pc := 35) (fun y => [(0, .ref a), (1, .int q), (2, .int y), (3, .int (nI 1))]) dX6_isOf_35 rfl (by decide) (fun _ => rfl) (fun y35 ey35 => ?_)
      obtain rfl : y35 = 0 := ey35
      refine V_inc (pc := 36) (fun y => [(0, .ref a), (1, .int q), (2, .int 0), (3, .int y)]) (w := 1) dX6_isOf_36 (by decide) (by decide) rfl (fun _ => rfl) (fun y36 ey36 => ?_)
      obtain rfl : y36 = nI 2 := ey36
      refine V_goto (pc := 39) (t := 7) dX6_isOf_39 (by decide) ?_
      refine V_iln (pc := 7) dX6_isOf_7 rfl rfl ?_
      refine V_bipush (pc := 8) (v := 6) dX6_isOf_8 (by decide) ?_
      refine V_cge (pc := 10) (t := 42) dX6_isOf_10 (by decide) (fun h => absurd h (by decide)) (fun _ => ?_)
      refine V_iln (pc := 13) dX6_isOf_13 rfl rfl ?_
      refine V_lt (pc := 14) (t := 42) dX6_isOf_14 (by decide) (fun h => absurd h (by decide)) (fun _ => ?_)
      refine V_iln (pc := 17) dX6_isOf_17 rfl rfl ?_
      refine V_bipush (pc := 18) (v := 6) dX6_isOf_18 (by decide) ?_
      refine V_cge (pc := 20) (t := 42) dX6_isOf_20 (by decide) (fun h => absurd h (by decide)) (fun _ => ?_)
      refine V_iln (pc := 23) dX6_isOf_23 rfl rfl ?_
      refine V_iln (pc := 24) dX6_isOf_24 rfl rfl ?_
      refine V_cne (pc := 25) (t := 30) dX6_isOf_25 (by decide) (fun n0 => ?_) (fun e => ?_)
      · refine V_gsN (pc := 30) dX6_isOf_30 rfl hx1 ?_
        refine V_iln (pc := 33) dX6_isOf_33 rfl rfl ?_
        refine V_iax (pc := 34) 0 dX6_isOf_34 hx2 (by decide) rfl (by decide) ?_
        refine V_isn (pc := 35) (fun y => [(0, .ref a), (1, .int q), (2, .int y), (3, .int (nI 2))]) dX6_isOf_35 rfl (by decide) (fun _ => rfl) (fun y35 ey35 => ?_)
        obtain rfl : y35 = (-1) := ey35
        refine V_inc (pc := 36) (fun y => [(0, .ref a), (1, .int q), (2, .int (-1)), (3, .int y)]) (w := 1) dX6_isOf_36 (by decide) (by decide) rfl (fun _ => rfl) (fun y36 ey36 => ?_)
        obtain rfl : y36 = nI 3 := ey36
        refine V_goto (pc := 39) (t := 7) dX6_isOf_39 (by decide) ?_
        refine V_iln (pc := 7) dX6_isOf_7 rfl rfl ?_
        refine V_bipush (pc := 8) (v := 6) dX6_isOf_8 (by decide) ?_
        refine V_cge (pc := 10) (t := 42) dX6_isOf_10 (by decide) (fun h => absurd h (by decide)) (fun _ => ?_)
        refine V_iln (pc := 13) dX6_isOf_13 rfl rfl ?_
        refine V_lt (pc := 14) (t := 42) dX6_isOf_14 (by decide) (fun _ => ?_) (fun h => absurd (by decide) h)
        refine V_iconst (pc := 42) (v := 0) dX6_isOf_42 (by decide) ?_
        refine V_iret (pc := 43) dX6_isOf_43 rfl rfl ?_
        refine h0 ?_
        rintro (e | e | ⟨e, e2⟩ | ⟨e, e2⟩)
        · exact n4 e
        · exact n0 e.symm
        · first | exact absurd e2 (by decide) | exact n1 e.symm
        · first | exact absurd e2 (by decide) | exact n2 e.symm
      · refine V_iconst (pc := 28) (v := 1) dX6_isOf_28 (by decide) ?_
        refine V_iret (pc := 29) dX6_isOf_29 rfl rfl ?_
        exact h1 (Or.inr (Or.inl e.symm))
    · refine V_iconst (pc := 28) (v := 1) dX6_isOf_28 (by decide) ?_
      refine V_iret (pc := 29) dX6_isOf_29 rfl rfl ?_
      exact h1 (Or.inr (Or.inr (Or.inr ⟨e.symm, rfl⟩)))
  · refine V_iconst (pc := 28) (v := 1) dX6_isOf_28 (by decide) ?_
    refine V_iret (pc := 29) dX6_isOf_29 rfl rfl ?_
    exact h1 (Or.inl e)
set_option maxRecDepth 100000 in
set_option maxHeartbeats 4000000 in
theorem c_isOf_5 {x : pX} {d : Nat} {S : pS} {Q : Int32 → pS → Prop} {b : Nat × Nat} {a : Nat} {q : Int32} {ab : Nat} (hx1 : (RX8, "ABOVE", "[I", Value.ref ab) ∈ x.1) (hx2 : (FieldType.int, ab, 6, fun k => Value.int (abv k)) ∈ x.2.2.1) (h1 : fisOf 5 q → Q 1 S) (h0 : ¬ fisOf 5 q → Q 0 S) : V x (d + 1) M_X6_isOf (qi Q) b 7 [(0, .ref a), (1, .int q), (2, .int 5), (3, .int (nI 0))] [] S := by
  refine V_iln (pc := 7) dX6_isOf_7 rfl rfl ?_
  refine V_bipush (pc := 8) (v := 6) dX6_isOf_8 (by decide) ?_
  refine V_cge (pc := 10) (t := 42) dX6_isOf_10 (by decide) (fun h => absurd h (by decide)) (fun _ => ?_)
  refine V_iln (pc := 13) dX6_isOf_13 rfl rfl ?_
  refine V_lt (pc := 14) (t := 42) dX6_isOf_14 (by decide) (fun h => absurd h (by decide)) (fun _ => ?_)
  refine V_iln (pc := 17) dX6_isOf_17 rfl rfl ?_
  refine V_bipush (pc := 18) (v := 6) dX6_isOf_18 (by decide) ?_
  refine V_cge (pc := 20) (t := 42) dX6_isOf_20 (by decide) (fun h => absurd h (by decide)) (fun _ => ?_)
  refine V_iln (pc := 23) dX6_isOf_23 rfl rfl ?_
  refine V_iln (pc := 24) dX6_isOf_24 rfl rfl ?_
  refine V_cne (pc := 25) (t := 30) dX6_isOf_25 (by decide) (fun n5 => ?_) (fun e => ?_)
  · refine V_gsN (pc := 30) dX6_isOf_30 rfl hx1 ?_
    refine V_iln (pc := 33) dX6_isOf_33 rfl rfl ?_
    refine V_iax (pc := 34) 5 dX6_isOf_34 hx2 (by decide) rfl (by decide) ?_
    refine V_isn (pc := 35) (fun y => [(0, .ref a), (1, .int q), (2, .int y), (3, .int (nI 0))]) dX6_isOf_35 rfl (by decide) (fun _ => rfl) (fun y35 ey35 => ?_)
    obtain rfl : y35 = 0 := ey35
    refine V_inc (pc := 36) (fun y => [(0, .ref a), (1, .int q), (2, .int 0), (3, .int y)]) (w := 1) dX6_isOf_36 (by decide) (by decide) rfl (fun _ => rfl) (fun y36 ey36 => ?_)
    obtain rfl : y36 = nI 1 := ey36
    refine V_goto (pc := 39) (t := 7) dX6_isOf_39 (by decide) ?_
    refine V_iln (pc := 7) dX6_isOf_7 rfl rfl ?_
    refine V_bipush (pc := 8) (v := 6) dX6_isOf_8 (by decide) ?_
    refine V_cge (pc := 10) (t := 42) dX6_isOf_10 (by decide) (fun h => absurd h (by decide)) (fun _ => ?_)
    refine V_iln (pc := 13) dX6_isOf_13 rfl rfl ?_
    refine V_lt (pc := 14) (t := 42) dX6_isOf_14 (by decide) (fun h => absurd h (by decide)) (fun _ => ?_)
    refine V_iln (pc := 17) dX6_isOf_17 rfl rfl ?_
    refine V_bipush (pc := 18) (v := 6) dX6_isOf_18 (by decide) ?_
    refine V_cge (pc := 20) (t := 42) dX6_isOf_20 (by decide) (fun h => absurd h (by decide)) (fun _ => ?_)
    refine V_iln (pc := 23) dX6_isOf_23 rfl rfl ?_
    refine V_iln (pc := 24) dX6_isOf_24 rfl rfl ?_
    refine V_cne (pc := 25) (t := 30) dX6_isOf_25 (by decide) (fun n0 => ?_) (fun e => ?_)
    · refine V_gsN (pc := 30) dX6_isOf_30 rfl hx1 ?_
      refine V_iln (pc := 33) dX6_isOf_33 rfl rfl ?_
      refine V_iax (pc := 34) 0 dX6_isOf_34 hx2 (by decide) rfl (by decide) ?_
      refine V_isn (pc := 35) (fun y => [(0, .ref a), (1, .int q), (2, .int y), (3, .int (nI 1))]) dX6_isOf_35 rfl (by decide) (fun _ => rfl) (fun y35 ey35 => ?_)
      obtain rfl : y35 = (-1) := ey35
      refine V_inc (pc := 36) (fun y => [(0, .ref a), (1, .int q), (2, .int (-1)), (3, .int y)]) (w := 1) dX6_isOf_36 (by decide) (by decide) rfl (fun _ => rfl) (fun y36 ey36 => ?_)
      obtain rfl : y36 = nI 2 := ey36
      refine V_goto (pc := 39) (t := 7) dX6_isOf_39 (by decide) ?_
      refine V_iln (pc := 7) dX6_isOf_7 rfl rfl ?_
      refine V_bipush (pc := 8) (v := 6) dX6_isOf_8 (by decide) ?_
      refine V_cge (pc := 10) (t := 42) dX6_isOf_10 (by decide) (fun h => absurd h (by decide)) (fun _ => ?_)
      refine V_iln (pc := 13) dX6_isOf_13 rfl rfl ?_
      refine V_lt (pc := 14) (t := 42) dX6_isOf_14 (by decide) (fun _ => ?_) (fun h => absurd (by decide) h)
      refine V_iconst (pc := 42) (v := 0) dX6_isOf_42 (by decide) ?_
      refine V_iret (pc := 43) dX6_isOf_43 rfl rfl ?_
      refine h0 ?_
      rintro (e | e | ⟨e, e2⟩ | ⟨e, e2⟩)
      · exact n5 e
      · exact n0 e.symm
      · first | exact absurd e2 (by decide) | exact n1 e.symm
      · first | exact absurd e2 (by decide) | exact n2 e.symm
    · refine V_iconst (pc := 28) (v := 1) dX6_isOf_28 (by decide) ?_
      refine V_iret (pc := 29) dX6_isOf_29 rfl rfl ?_
      exact h1 (Or.inr (Or.inl e.symm))
  · refine V_iconst (pc := 28) (v := 1) dX6_isOf_28 (by decide) ?_
    refine V_iret (pc := 29) dX6_isOf_29 rfl rfl ?_
    exact h1 (Or.inl e)
set_option maxRecDepth 100000 in
set_option maxHeartbeats 4000000 in
theorem c_isOf {x : pX} {d : Nat} {S : pS} {Q : Int32 → pS → Prop} {a k : Nat} {q : Int32} (hx : XA x) (ha : hk S a 6) (hk5 : k ≤ 5) (he : gI S 192 a = nI k) (h1 : fisOf (nI k) q → Q 1 S) (h0 : ¬ fisOf (nI k) q → Q 0 S) : PI x (d + 1) M_X6_isOf [.ref a, .int q] S Q := by
  obtain ⟨ab, hx1, hx2⟩ := hx
  refine PM_of (by decide +kernel) (Nat.le_of_ble_eq_true rfl) ?_
  show V x (d + 1) M_X6_isOf (qi Q) (0, 0) 0 [(0, .ref a), (1, .int q)] [] S
  refine V_aln (pc := 0) dX6_isOf_0 rfl rfl ?_
  refine V_gi (pc := 1) 6 0 192 dX6_isOf_1 (FL_X6_9 rfl) rfl rfl ha ?_
  refine V_isn (pc := 4) (fun y => [(0, .ref a), (1, .int q), (2, .int y)]) dX6_isOf_4 rfl (by decide) (fun _ => rfl) (fun y4 ey4 => ?_)
  obtain rfl : y4 = nI k := by rw [ey4]; exact he
  refine V_iconst (pc := 5) (v := 0) dX6_isOf_5 (by decide) ?_
  refine V_isn (pc := 6) (fun y => [(0, .ref a), (1, .int q), (2, .int (nI k)), (3, .int y)]) dX6_isOf_6 rfl (by decide) (fun _ => rfl) (fun y6 ey6 => ?_)
  obtain rfl : y6 = nI 0 := ey6
  match k, hk5, h1, h0 with
  | 0, _, h1, h0 => exact c_isOf_0 hx1 hx2 h1 h0
  | 1, _, h1, h0 => exact c_isOf_1 hx1 hx2 h1 h0
  | 2, _, h1, h0 => exact c_isOf_2 hx1 hx2 h1 h0
  | 3, _, h1, h0 => exact c_isOf_3 hx1 hx2 h1 h0
  | 4, _, h1, h0 => exact c_isOf_4 hx1 hx2 h1 h0
  | 5, _, h1, h0 => exact c_isOf_5 hx1 hx2 h1 h0
  | k + 6, h, _, _ => exact absurd h (by omega)
