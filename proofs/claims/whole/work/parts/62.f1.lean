/-! ===== the class made: its small parts ===== -/
set_option maxRecDepth 100000 in
set_option maxHeartbeats 1000000 in
theorem i_X6 {x : pX} {d : Nat} {S : pS} {Q : pS → Prop} {a : Nat} {R : Nat → Option Nat} {J : Nat → Int32} (ha : OB S a 6 R J) (h : ∀ (S2 : pS), GX (fun z => z = a) S S2 → OB S2 a 6 (R) (J) → Q S2) : PV x (d + 1) M_X6_init [.ref a] S Q := by
  refine PM_of (by decide +kernel) (Nat.le_of_ble_eq_true rfl) ?_
  show V x (d + 1) M_X6_init (qv Q) (0, 0) 0 [(0, .ref a)] [] S
  refine V_aln (pc := 0) dX6_init_0 rfl rfl ?_
  refine V_oi (pc := 1) (jo_X6_3 dX6_init_1 rfl) (by omega) (Nat.le_of_ble_eq_true rfl) ?_
  refine V_ret (pc := 4) dX6_init_4 rfl ?_
  exact h  S GX.rf   ha 
set_option maxRecDepth 100000 in
set_option maxHeartbeats 1000000 in
theorem i_X0 {x : pX} {d : Nat} {S : pS} {Q : pS → Prop} {a : Nat} {R : Nat → Option Nat} {J : Nat → Int32} (ha : OB S a 0 R J) (h : ∀ (c1 : Nat) (S2 : pS), GX (fun z => z = a) S S2 → c1 ∉ gL S → OB S2 a 0 (va_up (R) 0 (some c1)) (J) → AR S2 c1 100 (fun _ => 0) → Q S2) : PV x (d + 1) M_X0_init [.ref a] S Q := by
  refine PM_of (by decide +kernel) (Nat.le_of_ble_eq_true rfl) ?_
  show V x (d + 1) M_X0_init (qv Q) (1, 100) 0 [(0, .ref a)] [] S
  refine V_aln (pc := 0) dX0_init_0 rfl rfl ?_
  refine V_oi (pc := 1) (jo_X0_3 dX0_init_1 rfl) (by omega) (Nat.le_of_ble_eq_true rfl) ?_
  refine V_aln (pc := 4) dX0_init_4 rfl rfl ?_
  refine V_bipush (pc := 5) (v := 100) dX0_init_5 (by decide) ?_
  refine V_na (pc := 7) 100 (ja_int dX0_init_7) (by decide) (by decide) (Nat.le_of_ble_eq_true rfl) (Nat.le_of_ble_eq_true rfl) (fun c1 q_c1 => ?_)
  obtain ⟨S1, eS1⟩ : ∃ Z, Z = nX S c1 100 := ⟨_, rfl⟩
  rw [← eS1]
  have G1 : GX (fun z => z = c1) S S1 := by rw [eS1]; exact gx_X q_c1
  have f_c1 : c1 ∉ gL S := q_c1
  have n_a_c1 : a ≠ c1 := fun e => q_c1 (e ▸ ha.1.1)
  have n_c1_a := n_a_c1.symm
  have h_a := ha.gx G1 n_a_c1
  have Gt1 : GX (fun z => z = a) S S1 := GX.tr GX.rf G1 (fun z hz e => absurd hz (e ▸ f_c1))
  have h_c1 : AR S1 c1 100 (fun _ => 0) := by rw [eS1]; exact ar_new
  refine V_prf (pc := 9) 0 0 0 dX0_init_9 (FL_X0_9 rfl) rfl rfl (fun _ => rfl) (fun _ => rfl) rfl rfl rfl h_a.1 ?_
  obtain ⟨S2, eS2⟩ : ∃ Z, Z = sR S1 0 a (some c1) := ⟨_, rfl⟩
  rw [← eS2]
  have G2 : GX (fun z => z = a) S1 S2 := by rw [eS2]; exact gx_R
  have h_c1 := h_c1.gx G2 n_c1_a
  have Gt2 : GX (fun z => z = a) S S2 := GX.tr Gt1 G2 (fun z hz e => e)
  have h_a : OB S2 a 0 (va_up (R) 0 (some c1)) (J) := by rw [eS2]; exact h_a.wR
  refine V_ret (pc := 12) dX0_init_12 rfl ?_
  exact h c1 S2 Gt2 f_c1  h_a h_c1
set_option maxRecDepth 100000 in
set_option maxHeartbeats 1000000 in
theorem i_X2 {x : pX} {d : Nat} {S : pS} {Q : pS → Prop} {a : Nat} {R : Nat → Option Nat} {J : Nat → Int32} (ha : OB S a 2 R J) (h : ∀ (c1 : Nat) (S2 : pS), GX (fun z => z = a) S S2 → c1 ∉ gL S → OB S2 a 2 (va_up (R) 66 (some c1)) (va_up (J) 64 (-1)) → AR S2 c1 24 (fun _ => 0) → Q S2) : PV x (d + 1) M_X2_init [.ref a] S Q := by
  refine PM_of (by decide +kernel) (Nat.le_of_ble_eq_true rfl) ?_
  show V x (d + 1) M_X2_init (qv Q) (1, 24) 0 [(0, .ref a)] [] S
  refine V_aln (pc := 0) dX2_init_0 rfl rfl ?_
  refine V_oi (pc := 1) (jo_X2_3 dX2_init_1 rfl) (by omega) (Nat.le_of_ble_eq_true rfl) ?_
  refine V_aln (pc := 4) dX2_init_4 rfl rfl ?_
  refine V_iconst (pc := 5) (v := (-1)) dX2_init_5 (by decide) ?_
  refine V_pi (pc := 6) 2 0 64 dX2_init_6 (FL_X2_9 rfl) rfl rfl rfl ha.1 ?_
  obtain ⟨S1, eS1⟩ : ∃ Z, Z = sI S 64 a (-1) := ⟨_, rfl⟩
  rw [← eS1]
  have G1 : GX (fun z => z = a) S S1 := by rw [eS1]; exact gx_I
  have Gt1 : GX (fun z => z = a) S S1 := GX.tr GX.rf G1 (fun z hz e => e)
  have ha : OB S1 a 2 (R) (va_up (J) 64 (-1)) := by rw [eS1]; exact ha.wI
  refine V_aln (pc := 9) dX2_init_9 rfl rfl ?_
  refine V_bipush (pc := 10) (v := 24) dX2_init_10 (by decide) ?_
  refine V_na (pc := 12) 24 (ja_int dX2_init_12) (by decide) (by decide) (Nat.le_of_ble_eq_true rfl) (Nat.le_of_ble_eq_true rfl) (fun c1 q_c1 => ?_)
  obtain ⟨S2, eS2⟩ : ∃ Z, Z = nX S1 c1 24 := ⟨_, rfl⟩
  rw [← eS2]
  have G2 : GX (fun z => z = c1) S1 S2 := by rw [eS2]; exact gx_X q_c1
  have f_c1 : c1 ∉ gL S := GX.out Gt1 q_c1
  have n_a_c1 : a ≠ c1 := fun e => q_c1 (e ▸ ha.1.1)
  have n_c1_a := n_a_c1.symm
  have h_a := ha.gx G2 n_a_c1
  have Gt2 : GX (fun z => z = a) S S2 := GX.tr Gt1 G2 (fun z hz e => absurd hz (e ▸ f_c1))
  have h_c1 : AR S2 c1 24 (fun _ => 0) := by rw [eS2]; exact ar_new
  refine V_prf (pc := 14) 2 2 66 dX2_init_14 (FL_X2_15 rfl) rfl rfl (fun _ => rfl) (fun _ => rfl) rfl rfl rfl h_a.1 ?_
  obtain ⟨S3, eS3⟩ : ∃ Z, Z = sR S2 66 a (some c1) := ⟨_, rfl⟩
  rw [← eS3]
  have G3 : GX (fun z => z = a) S2 S3 := by rw [eS3]; exact gx_R
  have h_c1 := h_c1.gx G3 n_c1_a
  have Gt3 : GX (fun z => z = a) S S3 := GX.tr Gt2 G3 (fun z hz e => e)
  have h_a : OB S3 a 2 (va_up (R) 66 (some c1)) (va_up (J) 64 (-1)) := by rw [eS3]; exact h_a.wR
  refine V_ret (pc := 17) dX2_init_17 rfl ?_
  exact h c1 S3 Gt3 f_c1  h_a h_c1
set_option maxRecDepth 100000 in
set_option maxHeartbeats 1000000 in
theorem i_X4 {x : pX} {d : Nat} {S : pS} {Q : pS → Prop} {a : Nat} {R : Nat → Option Nat} {J : Nat → Int32} (ha : OB S a 4 R J) (h : ∀ (c1 : Nat) (S2 : pS), GX (fun z => z = a) S S2 → c1 ∉ gL S → OB S2 a 4 (va_up (R) 128 (some c1)) (J) → AR S2 c1 96 (fun _ => 0) → Q S2) : PV x (d + 1) M_X4_init [.ref a] S Q := by
  refine PM_of (by decide +kernel) (Nat.le_of_ble_eq_true rfl) ?_
  show V x (d + 1) M_X4_init (qv Q) (1, 96) 0 [(0, .ref a)] [] S
  refine V_aln (pc := 0) dX4_init_0 rfl rfl ?_
  refine V_oi (pc := 1) (jo_X4_3 dX4_init_1 rfl) (by omega) (Nat.le_of_ble_eq_true rfl) ?_
  refine V_aln (pc := 4) dX4_init_4 rfl rfl ?_
  refine V_bipush (pc := 5) (v := 96) dX4_init_5 (by decide) ?_
  refine V_na (pc := 7) 96 (ja_int dX4_init_7) (by decide) (by decide) (Nat.le_of_ble_eq_true rfl) (Nat.le_of_ble_eq_true rfl) (fun c1 q_c1 => ?_)
  obtain ⟨S1, eS1⟩ : ∃ Z, Z = nX S c1 96 := ⟨_, rfl⟩
  rw [← eS1]
  have G1 : GX (fun z => z = c1) S S1 := by rw [eS1]; exact gx_X q_c1
  have f_c1 : c1 ∉ gL S := q_c1
  have n_a_c1 : a ≠ c1 := fun e => q_c1 (e ▸ ha.1.1)
  have n_c1_a := n_a_c1.symm
  have h_a := ha.gx G1 n_a_c1
  have Gt1 : GX (fun z => z = a) S S1 := GX.tr GX.rf G1 (fun z hz e => absurd hz (e ▸ f_c1))
  have h_c1 : AR S1 c1 96 (fun _ => 0) := by rw [eS1]; exact ar_new
  refine V_prf (pc := 9) 4 0 128 dX4_init_9 (FL_X4_9 rfl) rfl rfl (fun _ => rfl) (fun _ => rfl) rfl rfl rfl h_a.1 ?_
  obtain ⟨S2, eS2⟩ : ∃ Z, Z = sR S1 128 a (some c1) := ⟨_, rfl⟩
  rw [← eS2]
  have G2 : GX (fun z => z = a) S1 S2 := by rw [eS2]; exact gx_R
  have h_c1 := h_c1.gx G2 n_c1_a
  have Gt2 : GX (fun z => z = a) S S2 := GX.tr Gt1 G2 (fun z hz e => e)
  have h_a : OB S2 a 4 (va_up (R) 128 (some c1)) (J) := by rw [eS2]; exact h_a.wR
  refine V_ret (pc := 12) dX4_init_12 rfl ?_
  exact h c1 S2 Gt2 f_c1  h_a h_c1
set_option maxRecDepth 100000 in
set_option maxHeartbeats 1000000 in
theorem i_X3 {x : pX} {d : Nat} {S : pS} {Q : pS → Prop} {a : Nat} {R : Nat → Option Nat} {J : Nat → Int32} (ha : OB S a 3 R J) (h : ∀ (c1 c2 c3 : Nat) (S2 : pS), GX (fun z => z = a) S S2 → c1 ∉ gL S → c2 ∉ gL S → c3 ∉ gL S → c1 ≠ c2 → c1 ≠ c3 → c2 ≠ c3 → OB S2 a 3 (va_up (va_up (R) 98 (some c1)) 99 (some c2)) (va_up (J) 96 0) → OB S2 c1 6 (fun _ => none) (fun _ => 0) → OB S2 c2 2 (va_up (fun _ => none) 66 (some c3)) (va_up (fun _ => 0) 64 (-1)) → AR S2 c3 24 (fun _ => 0) → Q S2) : PV x (d + 2) M_X3_init [.ref a] S Q := by
  refine PM_of (by decide +kernel) (Nat.le_of_ble_eq_true rfl) ?_
  show V x (d + 2) M_X3_init (qv Q) (3, 31) 0 [(0, .ref a)] [] S
  refine V_aln (pc := 0) dX3_init_0 rfl rfl ?_
  refine V_oi (pc := 1) (jo_X3_3 dX3_init_1 rfl) (by omega) (Nat.le_of_ble_eq_true rfl) ?_
  refine V_aln (pc := 4) dX3_init_4 rfl rfl ?_
  refine V_iconst (pc := 5) (v := 0) dX3_init_5 (by decide) ?_
  refine V_pi (pc := 6) 3 0 96 dX3_init_6 (FL_X3_9 rfl) rfl rfl rfl ha.1 ?_
  obtain ⟨S1, eS1⟩ : ∃ Z, Z = sI S 96 a 0 := ⟨_, rfl⟩
  rw [← eS1]
  have G1 : GX (fun z => z = a) S S1 := by rw [eS1]; exact gx_I
  have Gt1 : GX (fun z => z = a) S S1 := GX.tr GX.rf G1 (fun z hz e => e)
  have ha : OB S1 a 3 (R) (va_up (J) 96 0) := by rw [eS1]; exact ha.wI
  refine V_aln (pc := 9) dX3_init_9 rfl rfl ?_
  refine V_new (pc := 10) (jn_X3_15 dX3_init_10 rfl) (Nat.le_of_ble_eq_true rfl) (Nat.le_of_ble_eq_true rfl) (fun c1 q_c1 => ?_)
  obtain ⟨S2, eS2⟩ : ∃ Z, Z = nO S1 c1 6 := ⟨_, rfl⟩
  rw [← eS2]
  have G2 : GX (fun z => z = c1) S1 S2 := by rw [eS2]; exact gx_O q_c1 (by decide)
  have f_c1 : c1 ∉ gL S := GX.out Gt1 q_c1
  have n_a_c1 : a ≠ c1 := fun e => q_c1 (e ▸ ha.1.1)
  have n_c1_a := n_a_c1.symm
  have h_a := ha.gx G2 n_a_c1
  have Gt2 : GX (fun z => z = a) S S2 := GX.tr Gt1 G2 (fun z hz e => absurd hz (e ▸ f_c1))
  have h_c1 : OB S2 c1 6 (fun _ => none) (fun _ => 0) := by rw [eS2]; exact ob_new
  refine V_dup (pc := 13) dX3_init_13 rfl ?_
  refine V_cIv0 (pc := 14) (jc_X3_17 dX3_init_14 rfl) rfl rfl (Nat.le_of_ble_eq_true rfl) ?_
  refine i_X6 h_c1 (fun  S3 G3   h_N  => ?_)
  have h_a := h_a.gx G3 n_a_c1
  have Gt3 : GX (fun z => z = a) S S3 := GX.tr Gt2 G3 (fun z hz e => absurd hz (e ▸ f_c1))
  have h_c1 := h_N
  refine V_prf (pc := 17) 3 2 98 dX3_init_17 (FL_X3_18 rfl) rfl rfl (fun _ => rfl) (fun _ => rfl) rfl rfl rfl h_a.1 ?_
  obtain ⟨S4, eS4⟩ : ∃ Z, Z = sR S3 98 a (some c1) := ⟨_, rfl⟩
  rw [← eS4]
  have G4 : GX (fun z => z = a) S3 S4 := by rw [eS4]; exact gx_R
  have h_c1 := h_c1.gx G4 n_c1_a
  have Gt4 : GX (fun z => z = a) S S4 := GX.tr Gt3 G4 (fun z hz e => e)
  have h_a : OB S4 a 3 (va_up (R) 98 (some c1)) (va_up (J) 96 0) := by rw [eS4]; exact h_a.wR
  refine V_aln (pc := 20) dX3_init_20 rfl rfl ?_
  refine V_new (pc := 21) (jn_X3_22 dX3_init_21 rfl) (Nat.le_of_ble_eq_true rfl) (Nat.le_of_ble_eq_true rfl) (fun c2 q_c2 => ?_)
  obtain ⟨S5, eS5⟩ : ∃ Z, Z = nO S4 c2 2 := ⟨_, rfl⟩
  rw [← eS5]
  have G5 : GX (fun z => z = c2) S4 S5 := by rw [eS5]; exact gx_O q_c2 (by decide)
  have f_c2 : c2 ∉ gL S := GX.out Gt4 q_c2
  have n_a_c2 : a ≠ c2 := fun e => q_c2 (e ▸ h_a.1.1)
  have n_c2_a := n_a_c2.symm
  have n_c1_c2 : c1 ≠ c2 := fun e => q_c2 (e ▸ h_c1.1.1)
  have n_c2_c1 := n_c1_c2.symm
  have h_a := h_a.gx G5 n_a_c2
  have h_c1 := h_c1.gx G5 n_c1_c2
  have Gt5 : GX (fun z => z = a) S S5 := GX.tr Gt4 G5 (fun z hz e => absurd hz (e ▸ f_c2))
  have h_c2 : OB S5 c2 2 (fun _ => none) (fun _ => 0) := by rw [eS5]; exact ob_new
  refine V_dup (pc := 24) dX3_init_24 rfl ?_
  refine V_cIv (pc := 25) (jc_X3_24 dX3_init_25 rfl) rfl (Nat.le_of_ble_eq_true rfl) (Nat.le_of_ble_eq_true rfl) (Nat.le_of_ble_eq_true rfl) ?_
  refine i_X2 h_c2 (fun c3 S6 G6 q_c3  h_N h_c3 => ?_)
  have f_c3 : c3 ∉ gL S := GX.out Gt5 q_c3
  have n_a_c3 : a ≠ c3 := fun e => q_c3 (e ▸ h_a.1.1)
  have n_c3_a := n_a_c3.symm
  have n_c1_c3 : c1 ≠ c3 := fun e => q_c3 (e ▸ h_c1.1.1)
  have n_c3_c1 := n_c1_c3.symm
  have n_c2_c3 : c2 ≠ c3 := fun e => q_c3 (e ▸ h_c2.1.1)
  have n_c3_c2 := n_c2_c3.symm
  have h_a := h_a.gx G6 n_a_c2
  have h_c1 := h_c1.gx G6 n_c1_c2
  have Gt6 : GX (fun z => z = a) S S6 := GX.tr Gt5 G6 (fun z hz e => absurd hz (e ▸ f_c2))
  have h_c2 := h_N
  refine V_prf (pc := 28) 3 3 99 dX3_init_28 (FL_X3_25 rfl) rfl rfl (fun _ => rfl) (fun _ => rfl) rfl rfl rfl h_a.1 ?_
  obtain ⟨S7, eS7⟩ : ∃ Z, Z = sR S6 99 a (some c2) := ⟨_, rfl⟩
  rw [← eS7]
  have G7 : GX (fun z => z = a) S6 S7 := by rw [eS7]; exact gx_R
  have h_c1 := h_c1.gx G7 n_c1_a
  have h_c2 := h_c2.gx G7 n_c2_a
  have h_c3 := h_c3.gx G7 n_c3_a
  have Gt7 : GX (fun z => z = a) S S7 := GX.tr Gt6 G7 (fun z hz e => e)
  have h_a : OB S7 a 3 (va_up (va_up (R) 98 (some c1)) 99 (some c2)) (va_up (J) 96 0) := by rw [eS7]; exact h_a.wR
  refine V_ret (pc := 31) dX3_init_31 rfl ?_
  exact h c1 c2 c3 S7 Gt7 f_c1 f_c2 f_c3 n_c1_c2 n_c1_c3 n_c2_c3 h_a h_c1 h_c2 h_c3
set_option maxRecDepth 100000 in
set_option maxHeartbeats 1000000 in
theorem i_X1 {x : pX} {d : Nat} {S : pS} {Q : pS → Prop} {a : Nat} {R : Nat → Option Nat} {J : Nat → Int32} (ha : OB S a 1 R J) (h : ∀ (c1 c2 c3 : Nat) (S2 : pS), GX (fun z => z = a) S S2 → c1 ∉ gL S → c2 ∉ gL S → c3 ∉ gL S → c1 ≠ c2 → c1 ≠ c3 → c2 ≠ c3 → OB S2 a 1 (va_up (va_up (R) 32 (some c1)) 39 (some c3)) (J) → OB S2 c1 4 (va_up (fun _ => none) 128 (some c2)) (fun _ => 0) → AR S2 c2 96 (fun _ => 0) → AR S2 c3 96 (fun _ => 0) → Q S2) : PV x (d + 2) M_X1_init [.ref a] S Q := by
  refine PM_of (by decide +kernel) (Nat.le_of_ble_eq_true rfl) ?_
  show V x (d + 2) M_X1_init (qv Q) (3, 194) 0 [(0, .ref a)] [] S
  refine V_aln (pc := 0) dX1_init_0 rfl rfl ?_
  refine V_oi (pc := 1) (jo_X1_3 dX1_init_1 rfl) (by omega) (Nat.le_of_ble_eq_true rfl) ?_
  refine V_aln (pc := 4) dX1_init_4 rfl rfl ?_
  refine V_new (pc := 5) (jn_X1_9 dX1_init_5 rfl) (Nat.le_of_ble_eq_true rfl) (Nat.le_of_ble_eq_true rfl) (fun c1 q_c1 => ?_)
  obtain ⟨S1, eS1⟩ : ∃ Z, Z = nO S c1 4 := ⟨_, rfl⟩
  rw [← eS1]
  have G1 : GX (fun z => z = c1) S S1 := by rw [eS1]; exact gx_O q_c1 (by decide)
  have f_c1 : c1 ∉ gL S := q_c1
  have n_a_c1 : a ≠ c1 := fun e => q_c1 (e ▸ ha.1.1)
  have n_c1_a := n_a_c1.symm
  have h_a := ha.gx G1 n_a_c1
  have Gt1 : GX (fun z => z = a) S S1 := GX.tr GX.rf G1 (fun z hz e => absurd hz (e ▸ f_c1))
  have h_c1 : OB S1 c1 4 (fun _ => none) (fun _ => 0) := by rw [eS1]; exact ob_new
  refine V_dup (pc := 8) dX1_init_8 rfl ?_
  refine V_cIv (pc := 9) (jc_X1_11 dX1_init_9 rfl) rfl (Nat.le_of_ble_eq_true rfl) (Nat.le_of_ble_eq_true rfl) (Nat.le_of_ble_eq_true rfl) ?_
  refine i_X4 h_c1 (fun c2 S2 G2 q_c2  h_N h_c2 => ?_)
  have f_c2 : c2 ∉ gL S := GX.out Gt1 q_c2
  have n_a_c2 : a ≠ c2 := fun e => q_c2 (e ▸ h_a.1.1)
  have n_c2_a := n_a_c2.symm
  have n_c1_c2 : c1 ≠ c2 := fun e => q_c2 (e ▸ h_c1.1.1)
  have n_c2_c1 := n_c1_c2.symm
  have h_a := h_a.gx G2 n_a_c1
  have Gt2 : GX (fun z => z = a) S S2 := GX.tr Gt1 G2 (fun z hz e => absurd hz (e ▸ f_c1))
  have h_c1 := h_N
  refine V_prf (pc := 12) 1 0 32 dX1_init_12 (FL_X1_12 rfl) rfl rfl (fun _ => rfl) (fun _ => rfl) rfl rfl rfl h_a.1 ?_
  obtain ⟨S3, eS3⟩ : ∃ Z, Z = sR S2 32 a (some c1) := ⟨_, rfl⟩
  rw [← eS3]
  have G3 : GX (fun z => z = a) S2 S3 := by rw [eS3]; exact gx_R
  have h_c1 := h_c1.gx G3 n_c1_a
  have h_c2 := h_c2.gx G3 n_c2_a
  have Gt3 : GX (fun z => z = a) S S3 := GX.tr Gt2 G3 (fun z hz e => e)
  have h_a : OB S3 a 1 (va_up (R) 32 (some c1)) (J) := by rw [eS3]; exact h_a.wR
  refine V_aln (pc := 15) dX1_init_15 rfl rfl ?_
  refine V_bipush (pc := 16) (v := 96) dX1_init_16 (by decide) ?_
  refine V_na (pc := 18) 96 (ja_int dX1_init_18) (by decide) (by decide) (Nat.le_of_ble_eq_true rfl) (Nat.le_of_ble_eq_true rfl) (fun c3 q_c3 => ?_)
  obtain ⟨S4, eS4⟩ : ∃ Z, Z = nX S3 c3 96 := ⟨_, rfl⟩
  rw [← eS4]
  have G4 : GX (fun z => z = c3) S3 S4 := by rw [eS4]; exact gx_X q_c3
  have f_c3 : c3 ∉ gL S := GX.out Gt3 q_c3
  have n_a_c3 : a ≠ c3 := fun e => q_c3 (e ▸ h_a.1.1)
  have n_c3_a := n_a_c3.symm
  have n_c1_c3 : c1 ≠ c3 := fun e => q_c3 (e ▸ h_c1.1.1)
  have n_c3_c1 := n_c1_c3.symm
  have n_c2_c3 : c2 ≠ c3 := fun e => q_c3 (e ▸ h_c2.1.1)
  have n_c3_c2 := n_c2_c3.symm
  have h_a := h_a.gx G4 n_a_c3
  have h_c1 := h_c1.gx G4 n_c1_c3
  have h_c2 := h_c2.gx G4 n_c2_c3
  have Gt4 : GX (fun z => z = a) S S4 := GX.tr Gt3 G4 (fun z hz e => absurd hz (e ▸ f_c3))
  have h_c3 : AR S4 c3 96 (fun _ => 0) := by rw [eS4]; exact ar_new
  refine V_prf (pc := 20) 1 7 39 dX1_init_20 (FL_X1_18 rfl) rfl rfl (fun _ => rfl) (fun _ => rfl) rfl rfl rfl h_a.1 ?_
  obtain ⟨S5, eS5⟩ : ∃ Z, Z = sR S4 39 a (some c3) := ⟨_, rfl⟩
  rw [← eS5]
  have G5 : GX (fun z => z = a) S4 S5 := by rw [eS5]; exact gx_R
  have h_c1 := h_c1.gx G5 n_c1_a
  have h_c2 := h_c2.gx G5 n_c2_a
  have h_c3 := h_c3.gx G5 n_c3_a
  have Gt5 : GX (fun z => z = a) S S5 := GX.tr Gt4 G5 (fun z hz e => e)
  have h_a : OB S5 a 1 (va_up (va_up (R) 32 (some c1)) 39 (some c3)) (J) := by rw [eS5]; exact h_a.wR
  refine V_ret (pc := 23) dX1_init_23 rfl ?_
  exact h c1 c2 c3 S5 Gt5 f_c1 f_c2 f_c3 n_c1_c2 n_c1_c3 n_c2_c3 h_a h_c1 h_c2 h_c3
