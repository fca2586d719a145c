/-! ===== the model is made ===== -/
def aix : Nat → Nat
  | 288 => 16
  | 289 => 15
  | 290 => 14
  | 292 => 13
  | 293 => 12
  | 294 => 11
  | 295 => 10
  | 296 => 9
  | 297 => 8
  | 298 => 7
  | 299 => 6
  | 300 => 5
  | 312 => 4
  | 313 => 3
  | 314 => 2
  | 315 => 1
  | 317 => 0
  | _ => 17
/-- the model's arrays as they are made -/
def A0 : Nat → Nat → Int32
  | 288 => s0
  | 292 => (upd (upd (upd (upd (fun _ => 0) 0 (-1)) 1 (-1)) 2 (-1)) 3 (-1))
  | _ => fun _ => 0
theorem aix_i : ∀ f, f ∈ AF → ∀ g, g ∈ AF → aix f = aix g → f = g := by decide
theorem aix_l : ∀ f, f ∈ AF → aix f < 17 := by decide
theorem mz_fr {S : pS} {a c1 c2 c3 c4 c5 c6 c7 c8 c9 c10 c11 c12 c13 c14 c15 c16 c17 : Nat} (f : Nat) (hf : f ∈ AF) (f_c1 : c1 ∉ gL S) (f_c2 : c2 ∉ gL S) (f_c3 : c3 ∉ gL S) (f_c4 : c4 ∉ gL S) (f_c5 : c5 ∉ gL S) (f_c6 : c6 ∉ gL S) (f_c7 : c7 ∉ gL S) (f_c8 : c8 ∉ gL S) (f_c9 : c9 ∉ gL S) (f_c10 : c10 ∉ gL S) (f_c11 : c11 ∉ gL S) (f_c12 : c12 ∉ gL S) (f_c13 : c13 ∉ gL S) (f_c14 : c14 ∉ gL S) (f_c15 : c15 ∉ gL S) (f_c16 : c16 ∉ gL S) (f_c17 : c17 ∉ gL S) : [c17, c16, c15, c14, c13, c12, c11, c10, c9, c8, c7, c6, c5, c4, c3, c2, c1, a].getD (aix f) 0 ∉ gL S := by
  simp only [AF, List.mem_cons, List.not_mem_nil, or_false] at hf
  rcases hf with rfl | rfl | rfl | rfl | rfl | rfl | rfl | rfl | rfl | rfl | rfl | rfl | rfl | rfl | rfl | rfl | rfl
  · exact f_c1
  · exact f_c2
  · exact f_c3
  · exact f_c4
  · exact f_c5
  · exact f_c6
  · exact f_c7
  · exact f_c8
  · exact f_c9
  · exact f_c10
  · exact f_c11
  · exact f_c12
  · exact f_c13
  · exact f_c14
  · exact f_c15
  · exact f_c16
  · exact f_c17
set_option maxRecDepth 100000 in
set_option maxHeartbeats 1000000 in
theorem mz_mf {S : pS} {a c1 c2 c3 c4 c5 c6 c7 c8 c9 c10 c11 c12 c13 c14 c15 c16 c17 : Nat} {R : Nat → Option Nat} (Nn : Nd S [c17, c16, c15, c14, c13, c12, c11, c10, c9, c8, c7, c6, c5, c4, c3, c2, c1, a]) (h_a : OB S a 9 (va_up (va_up (va_up (va_up (va_up (va_up (va_up (va_up (va_up (va_up (va_up (va_up (va_up (va_up (va_up (va_up (va_up (R) 288 (some c1)) 289 (some c2)) 290 (some c3)) 292 (some c4)) 293 (some c5)) 294 (some c6)) 295 (some c7)) 296 (some c8)) 297 (some c9)) 298 (some c10)) 299 (some c11)) 300 (some c12)) 312 (some c13)) 313 (some c14)) 314 (some c15)) 315 (some c16)) 317 (some c17)) (fun _ => 0)) (h_c1 : AR S c1 3154 (upd (upd (upd (upd (upd (upd (upd (upd (upd (fun _ => 0) 4 1) 6 100) 7 100) 8 100) 9 100) 10 100) 11 100) 12 100) 13 100)) (h_c2 : AR S c2 3154 (fun _ => 0)) (h_c3 : AR S c3 3154 (fun _ => 0)) (h_c4 : AR S c4 4 (upd (upd (upd (upd (fun _ => 0) 0 (-1)) 1 (-1)) 2 (-1)) 3 (-1))) (h_c5 : AR S c5 4 (fun _ => 0)) (h_c6 : AR S c6 96 (fun _ => 0)) (h_c7 : AR S c7 5 (fun _ => 0)) (h_c8 : AR S c8 5 (fun _ => 0)) (h_c9 : AR S c9 5 (fun _ => 0)) (h_c10 : AR S c10 5 (fun _ => 0)) (h_c11 : AR S c11 120 (fun _ => 0)) (h_c12 : AR S c12 96 (fun _ => 0)) (h_c13 : AR S c13 128 (fun _ => 0)) (h_c14 : AR S c14 100 (fun _ => 0)) (h_c15 : AR S c15 24 (fun _ => 0)) (h_c16 : AR S c16 60 (fun _ => 0)) (h_c17 : AR S c17 60 (fun _ => 0)) : MF S a (fun f => [c17, c16, c15, c14, c13, c12, c11, c10, c9, c8, c7, c6, c5, c4, c3, c2, c1, a].getD (aix f) 0) := by
  refine ⟨h_a.1, fun f hf => ?_, fun f g hf hg e => aix_i f hf g hg (nd_inj _ Nn.1 _ _ (Nat.lt_of_lt_of_le (aix_l f hf) (show 17 ≤ 18 by decide)) (Nat.lt_of_lt_of_le (aix_l g hg) (show 17 ≤ 18 by decide)) e)⟩
  simp only [AF, List.mem_cons, List.not_mem_nil, or_false] at hf
  rcases hf with rfl | rfl | rfl | rfl | rfl | rfl | rfl | rfl | rfl | rfl | rfl | rfl | rfl | rfl | rfl | rfl | rfl
  · exact ⟨(h_a.2.1 288).trans rfl, h_c1.1, h_c1.2.1⟩
  · exact ⟨(h_a.2.1 289).trans rfl, h_c2.1, h_c2.2.1⟩
  · exact ⟨(h_a.2.1 290).trans rfl, h_c3.1, h_c3.2.1⟩
  · exact ⟨(h_a.2.1 292).trans rfl, h_c4.1, h_c4.2.1⟩
  · exact ⟨(h_a.2.1 293).trans rfl, h_c5.1, h_c5.2.1⟩
  · exact ⟨(h_a.2.1 294).trans rfl, h_c6.1, h_c6.2.1⟩
  · exact ⟨(h_a.2.1 295).trans rfl, h_c7.1, h_c7.2.1⟩
  · exact ⟨(h_a.2.1 296).trans rfl, h_c8.1, h_c8.2.1⟩
  · exact ⟨(h_a.2.1 297).trans rfl, h_c9.1, h_c9.2.1⟩
  · exact ⟨(h_a.2.1 298).trans rfl, h_c10.1, h_c10.2.1⟩
  · exact ⟨(h_a.2.1 299).trans rfl, h_c11.1, h_c11.2.1⟩
  · exact ⟨(h_a.2.1 300).trans rfl, h_c12.1, h_c12.2.1⟩
  · exact ⟨(h_a.2.1 312).trans rfl, h_c13.1, h_c13.2.1⟩
  · exact ⟨(h_a.2.1 313).trans rfl, h_c14.1, h_c14.2.1⟩
  · exact ⟨(h_a.2.1 314).trans rfl, h_c15.1, h_c15.2.1⟩
  · exact ⟨(h_a.2.1 315).trans rfl, h_c16.1, h_c16.2.1⟩
  · exact ⟨(h_a.2.1 317).trans rfl, h_c17.1, h_c17.2.1⟩
set_option maxRecDepth 100000 in
set_option maxHeartbeats 1000000 in
theorem mz_mr {S : pS} {a c1 c2 c3 c4 c5 c6 c7 c8 c9 c10 c11 c12 c13 c14 c15 c16 c17 : Nat} {R : Nat → Option Nat} (h_a : OB S a 9 (va_up (va_up (va_up (va_up (va_up (va_up (va_up (va_up (va_up (va_up (va_up (va_up (va_up (va_up (va_up (va_up (va_up (R) 288 (some c1)) 289 (some c2)) 290 (some c3)) 292 (some c4)) 293 (some c5)) 294 (some c6)) 295 (some c7)) 296 (some c8)) 297 (some c9)) 298 (some c10)) 299 (some c11)) 300 (some c12)) 312 (some c13)) 313 (some c14)) 314 (some c15)) 315 (some c16)) 317 (some c17)) (fun _ => 0)) (h_c1 : AR S c1 3154 (upd (upd (upd (upd (upd (upd (upd (upd (upd (fun _ => 0) 4 1) 6 100) 7 100) 8 100) 9 100) 10 100) 11 100) 12 100) 13 100)) (h_c2 : AR S c2 3154 (fun _ => 0)) (h_c3 : AR S c3 3154 (fun _ => 0)) (h_c4 : AR S c4 4 (upd (upd (upd (upd (fun _ => 0) 0 (-1)) 1 (-1)) 2 (-1)) 3 (-1))) (h_c5 : AR S c5 4 (fun _ => 0)) (h_c6 : AR S c6 96 (fun _ => 0)) (h_c7 : AR S c7 5 (fun _ => 0)) (h_c8 : AR S c8 5 (fun _ => 0)) (h_c9 : AR S c9 5 (fun _ => 0)) (h_c10 : AR S c10 5 (fun _ => 0)) (h_c11 : AR S c11 120 (fun _ => 0)) (h_c12 : AR S c12 96 (fun _ => 0)) (h_c13 : AR S c13 128 (fun _ => 0)) (h_c14 : AR S c14 100 (fun _ => 0)) (h_c15 : AR S c15 24 (fun _ => 0)) (h_c16 : AR S c16 60 (fun _ => 0)) (h_c17 : AR S c17 60 (fun _ => 0)) : MR S a (fun f => [c17, c16, c15, c14, c13, c12, c11, c10, c9, c8, c7, c6, c5, c4, c3, c2, c1, a].getD (aix f) 0) A0 (fun _ => 0) := by
  refine ⟨fun f hf => ?_, h_a.2.2⟩
  simp only [AF, List.mem_cons, List.not_mem_nil, or_false] at hf
  rcases hf with rfl | rfl | rfl | rfl | rfl | rfl | rfl | rfl | rfl | rfl | rfl | rfl | rfl | rfl | rfl | rfl | rfl
  · exact h_c1.2.2
  · exact h_c2.2.2
  · exact h_c3.2.2
  · exact h_c4.2.2
  · exact h_c5.2.2
  · exact h_c6.2.2
  · exact h_c7.2.2
  · exact h_c8.2.2
  · exact h_c9.2.2
  · exact h_c10.2.2
  · exact h_c11.2.2
  · exact h_c12.2.2
  · exact h_c13.2.2
  · exact h_c14.2.2
  · exact h_c15.2.2
  · exact h_c16.2.2
  · exact h_c17.2.2
set_option maxRecDepth 100000 in
set_option maxHeartbeats 8000000 in
theorem i_X9 {x : pX} {d : Nat} {S : pS} {Q : pS → Prop} {a : Nat} {R : Nat → Option Nat} (ha : OB S a 9 R (fun _ => 0)) (h : ∀ (as : Nat → Nat) (S2 : pS), GX (fun z => z = a) S S2 → (∀ f, f ∈ AF → as f ∉ gL S) → MF S2 a as → MR S2 a as A0 (fun _ => 0) → Q S2) : PV x (d + 1) M_X9_init [.ref a] S Q := by
  have Nn : Nd S [a] := Nd.i Nd.nil (fun _ q => absurd q List.not_mem_nil) ha.1.1
  refine PM_of (by decide +kernel) (Nat.le_of_ble_eq_true rfl) ?_
  show V x (d + 1) M_X9_init (qv Q) (17, 10174) 0 [(0, .ref a)] [] S
  refine V_aln (pc := 0) dX9_init_0 rfl rfl ?_
  refine V_oi (pc := 1) (jo_X9_1 dX9_init_1 rfl) (by omega) (Nat.le_of_ble_eq_true rfl) ?_
  refine V_aln (pc := 4) dX9_init_4 rfl rfl ?_
  refine V_sipush (pc := 5) (v := 3154) dX9_init_5 (by decide) ?_
  refine V_na (pc := 8) 3154 (ja_int dX9_init_8) (by decide) (by decide) (Nat.le_of_ble_eq_true rfl) (Nat.le_of_ble_eq_true rfl) (fun c1 q_c1 => ?_)
  obtain ⟨S1, eS1⟩ : ∃ Z, Z = nX S c1 3154 := ⟨_, rfl⟩
  rw [← eS1]
  have G1 : GX (fun z => z = c1) S S1 := by rw [eS1]; exact gx_X q_c1
  have f_c1 : c1 ∉ gL S := q_c1
  have n_a_c1 : a ≠ c1 := fun e => q_c1 (e ▸ ha.1.1)
  have n_c1_a := n_a_c1.symm
  have h_a := ha.gx G1 n_a_c1
  have Gt1 : GX (fun z => z = a) S S1 := GX.tr GX.rf G1 (fun z hz e => absurd hz (e ▸ f_c1))
  have h_c1 : AR S1 c1 3154 (fun _ => 0) := by rw [eS1]; exact ar_new
  have Nn := Nn.c q_c1 G1 h_c1.1.1
  refine V_prf (pc := 10) 9 0 288 dX9_init_10 (FL_X9_7 rfl) rfl rfl (fun _ => rfl) (fun _ => rfl) rfl rfl rfl h_a.1 ?_
  obtain ⟨S2, eS2⟩ : ∃ Z, Z = sR S1 288 a (some c1) := ⟨_, rfl⟩
  rw [← eS2]
  have G2 : GX (fun z => z = a) S1 S2 := by rw [eS2]; exact gx_R
  have h_c1 := h_c1.gx G2 n_c1_a
  have Gt2 : GX (fun z => z = a) S S2 := GX.tr Gt1 G2 (fun z hz e => e)
  have Nn := Nn.gx G2
  have h_a : OB S2 a 9 (va_up (R) 288 (some c1)) (fun _ => 0) := by rw [eS2]; exact h_a.wR
  refine V_aln (pc := 13) dX9_init_13 rfl rfl ?_
  refine V_sipush (pc := 14) (v := 3154) dX9_init_14 (by decide) ?_
  refine V_na (pc := 17) 3154 (ja_int dX9_init_17) (by decide) (by decide) (Nat.le_of_ble_eq_true rfl) (Nat.le_of_ble_eq_true rfl) (fun c2 q_c2 => ?_)
  obtain ⟨S3, eS3⟩ : ∃ Z, Z = nX S2 c2 3154 := ⟨_, rfl⟩
  rw [← eS3]
  have G3 : GX (fun z => z = c2) S2 S3 := by rw [eS3]; exact gx_X q_c2
  have f_c2 : c2 ∉ gL S := GX.out Gt2 q_c2
  have n_a_c2 : a ≠ c2 := fun e => q_c2 (e ▸ h_a.1.1)
  have n_c2_a := n_a_c2.symm
  have n_c1_c2 : c1 ≠ c2 := fun e => q_c2 (e ▸ h_c1.1.1)
  have n_c2_c1 := n_c1_c2.symm
  have h_a := h_a.gx G3 n_a_c2
  have h_c1 := h_c1.gx G3 n_c1_c2
  have Gt3 : GX (fun z => z = a) S S3 := GX.tr Gt2 G3 (fun z hz e => absurd hz (e ▸ f_c2))
  have h_c2 : AR S3 c2 3154 (fun _ => 0) := by rw [eS3]; exact ar_new
  have Nn := Nn.c q_c2 G3 h_c2.1.1
  refine V_prf (pc := 19) 9 1 289 dX9_init_19 (FL_X9_13 rfl) rfl rfl (fun _ => rfl) (fun _ => rfl) rfl rfl rfl h_a.1 ?_
  obtain ⟨S4, eS4⟩ : ∃ Z, Z = sR S3 289 a (some c2) := ⟨_, rfl⟩
  rw [← eS4]
  have G4 : GX (fun z => z = a) S3 S4 := by rw [eS4]; exact gx_R
  have h_c1 := h_c1.gx G4 n_c1_a
  have h_c2 := h_c2.gx G4 n_c2_a
  have Gt4 : GX (fun z => z = a) S S4 := GX.tr Gt3 G4 (fun z hz e => e)
  have Nn := Nn.gx G4
  have h_a : OB S4 a 9 (va_up (va_up (R) 288 (some c1)) 289 (some c2)) (fun _ => 0) := by rw [eS4]; exact h_a.wR
  refine V_aln (pc := 22) dX9_init_22 rfl rfl ?_
  refine V_sipush (pc := 23) (v := 3154) dX9_init_23 (by decide) ?_
  refine V_na (pc := 26) 3154 (ja_int dX9_init_26) (by decide) (by decide) (Nat.le_of_ble_eq_true rfl) (Nat.le_of_ble_eq_true rfl) (fun c3 q_c3 => ?_)
  obtain ⟨S5, eS5⟩ : ∃ Z, Z = nX S4 c3 3154 := ⟨_, rfl⟩
  rw [← eS5]
  have G5 : GX (fun z => z = c3) S4 S5 := by rw [eS5]; exact gx_X q_c3
  have f_c3 : c3 ∉ gL S := GX.out Gt4 q_c3
  have n_a_c3 : a ≠ c3 := fun e => q_c3 (e ▸ h_a.1.1)
  have n_c3_a := n_a_c3.symm
  have n_c1_c3 : c1 ≠ c3 := fun e => q_c3 (e ▸ h_c1.1.1)
  have n_c3_c1 := n_c1_c3.symm
  have n_c2_c3 : c2 ≠ c3 := fun e => q_c3 (e ▸ h_c2.1.1)
  have n_c3_c2 := n_c2_c3.symm
  have h_a := h_a.gx G5 n_a_c3
  have h_c1 := h_c1.gx G5 n_c1_c3
  have h_c2 := h_c2.gx G5 n_c2_c3
  have Gt5 : GX (fun z => z = a) S S5 := GX.tr Gt4 G5 (fun z hz e => absurd hz (e ▸ f_c3))
  have h_c3 : AR S5 c3 3154 (fun _ => 0) := by rw [eS5]; exact ar_new
  have Nn := Nn.c q_c3 G5 h_c3.1.1
  refine V_prf (pc := 28) 9 2 290 dX9_init_28 (FL_X9_16 rfl) rfl rfl (fun _ => rfl) (fun _ => rfl) rfl rfl rfl h_a.1 ?_
  obtain ⟨S6, eS6⟩ : ∃ Z, Z = sR S5 290 a (some c3) := ⟨_, rfl⟩
  rw [← eS6]
  have G6 : GX (fun z => z = a) S5 S6 := by rw [eS6]; exact gx_R
  have h_c1 := h_c1.gx G6 n_c1_a
  have h_c2 := h_c2.gx G6 n_c2_a
  have h_c3 := h_c3.gx G6 n_c3_a
  have Gt6 : GX (fun z => z = a) S S6 := GX.tr Gt5 G6 (fun z hz e => e)
  have Nn := Nn.gx G6
  have h_a : OB S6 a 9 (va_up (va_up (va_up (R) 288 (some c1)) 289 (some c2)) 290 (some c3)) (fun _ => 0) := by rw [eS6]; exact h_a.wR
  refine V_aln (pc := 31) dX9_init_31 rfl rfl ?_
  refine V_iconst (pc := 32) (v := 4) dX9_init_32 (by decide) ?_
  refine V_na (pc := 33) 4 (ja_int dX9_init_33) (by decide) (by decide) (Nat.le_of_ble_eq_true rfl) (Nat.le_of_ble_eq_true rfl) (fun c4 q_c4 => ?_)
  obtain ⟨S7, eS7⟩ : ∃ Z, Z = nX S6 c4 4 := ⟨_, rfl⟩
  rw [← eS7]
  have G7 : GX (fun z => z = c4) S6 S7 := by rw [eS7]; exact gx_X q_c4
  have f_c4 : c4 ∉ gL S := GX.out Gt6 q_c4
  have n_a_c4 : a ≠ c4 := fun e => q_c4 (e ▸ h_a.1.1)
  have n_c4_a := n_a_c4.symm
  have n_c1_c4 : c1 ≠ c4 := fun e => q_c4 (e ▸ h_c1.1.1)
  have n_c4_c1 := n_c1_c4.symm
  have n_c2_c4 : c2 ≠ c4 := fun e => q_c4 (e ▸ h_c2.1.1)
  have n_c4_c2 := n_c2_c4.symm
  have n_c3_c4 : c3 ≠ c4 := fun e => q_c4 (e ▸ h_c3.1.1)
  have n_c4_c3 := n_c3_c4.symm
  have h_a := h_a.gx G7 n_a_c4
  have h_c1 := h_c1.gx G7 n_c1_c4
  have h_c2 := h_c2.gx G7 n_c2_c4
  have h_c3 := h_c3.gx G7 n_c3_c4
  have Gt7 : GX (fun z => z = a) S S7 := GX.tr Gt6 G7 (fun z hz e => absurd hz (e ▸ f_c4))
  have h_c4 : AR S7 c4 4 (fun _ => 0) := by rw [eS7]; exact ar_new
  have Nn := Nn.c q_c4 G7 h_c4.1.1
  refine V_prf (pc := 35) 9 4 292 dX9_init_35 (FL_X9_19 rfl) rfl rfl (fun _ => rfl) (fun _ => rfl) rfl rfl rfl h_a.1 ?_
  obtain ⟨S8, eS8⟩ : ∃ Z, Z = sR S7 292 a (some c4) := ⟨_, rfl⟩
  rw [← eS8]
  have G8 : GX (fun z => z = a) S7 S8 := by rw [eS8]; exact gx_R
  have h_c1 := h_c1.gx G8 n_c1_a
  have h_c2 := h_c2.gx G8 n_c2_a
  have h_c3 := h_c3.gx G8 n_c3_a
  have h_c4 := h_c4.gx G8 n_c4_a
  have Gt8 : GX (fun z => z = a) S S8 := GX.tr Gt7 G8 (fun z hz e => e)
  have Nn := Nn.gx G8
  have h_a : OB S8 a 9 (va_up (va_up (va_up (va_up (R) 288 (some c1)) 289 (some c2)) 290 (some c3)) 292 (some c4)) (fun _ => 0) := by rw [eS8]; exact h_a.wR
  refine V_aln (pc := 38) dX9_init_38 rfl rfl ?_
  refine V_iconst (pc := 39) (v := 4) dX9_init_39 (by decide) ?_
  refine V_na (pc := 40) 4 (ja_int dX9_init_40) (by decide) (by decide) (Nat.le_of_ble_eq_true rfl) (Nat.le_of_ble_eq_true rfl) (fun c5 q_c5 => ?_)
  obtain ⟨S9, eS9⟩ : ∃ Z, Z = nX S8 c5 4 := ⟨_, rfl⟩
  rw [← eS9]
  have G9 : GX (fun z => z = c5) S8 S9 := by rw [eS9]; exact gx_X q_c5
  have f_c5 : c5 ∉ gL S := GX.out Gt8 q_c5
  have n_a_c5 : a ≠ c5 := fun e => q_c5 (e ▸ h_a.1.1)
  have n_c5_a := n_a_c5.symm
  have n_c1_c5 : c1 ≠ c5 := fun e => q_c5 (e ▸ h_c1.1.1)
  have n_c5_c1 := n_c1_c5.symm
  have n_c2_c5 : c2 ≠ c5 := fun e => q_c5 (e ▸ h_c2.1.1)
  have n_c5_c2 := n_c2_c5.symm
  have n_c3_c5 : c3 ≠ c5 := fun e => q_c5 (e ▸ h_c3.1.1)
  have n_c5_c3 := n_c3_c5.symm
  have n_c4_c5 : c4 ≠ c5 := fun e => q_c5 (e ▸ h_c4.1.1)
  have n_c5_c4 := n_c4_c5.symm
  have h_a := h_a.gx G9 n_a_c5
  have h_c1 := h_c1.gx G9 n_c1_c5
  have h_c2 := h_c2.gx G9 n_c2_c5
  have h_c3 := h_c3.gx G9 n_c3_c5
  have h_c4 := h_c4.gx G9 n_c4_c5
  have Gt9 : GX (fun z => z = a) S S9 := GX.tr Gt8 G9 (fun z hz e => absurd hz (e ▸ f_c5))
  have h_c5 : AR S9 c5 4 (fun _ => 0) := by rw [eS9]; exact ar_new
  have Nn := Nn.c q_c5 G9 h_c5.1.1
  refine V_prf (pc := 42) 9 5 293 dX9_init_42 (FL_X9_22 rfl) rfl rfl (fun _ => rfl) (fun _ => rfl) rfl rfl rfl h_a.1 ?_
  obtain ⟨S10, eS10⟩ : ∃ Z, Z = sR S9 293 a (some c5) := ⟨_, rfl⟩
  rw [← eS10]
  have G10 : GX (fun z => z = a) S9 S10 := by rw [eS10]; exact gx_R
  have h_c1 := h_c1.gx G10 n_c1_a
  have h_c2 := h_c2.gx G10 n_c2_a
  have h_c3 := h_c3.gx G10 n_c3_a
  have h_c4 := h_c4.gx G10 n_c4_a
  have h_c5 := h_c5.gx G10 n_c5_a
  have Gt10 : GX (fun z => z = a) S S10 := GX.tr Gt9 G10 (fun z hz e => e)
  have Nn := Nn.gx G10
  have h_a : OB S10 a 9 (va_up (va_up (va_up (va_up (va_up (R) 288 (some c1)) 289 (some c2)) 290 (some c3)) 292 (some c4)) 293 (some c5)) (fun _ => 0) := by rw [eS10]; exact h_a.wR
  refine V_aln (pc := 45) dX9_init_45 rfl rfl ?_
  refine V_bipush (pc := 46) (v := 96) dX9_init_46 (by decide) ?_
  refine V_na (pc := 48) 96 (ja_int dX9_init_48) (by decide) (by decide) (Nat.le_of_ble_eq_true rfl) (Nat.le_of_ble_eq_true rfl) (fun c6 q_c6 => ?_)
  obtain ⟨S11, eS11⟩ : ∃ Z, Z = nX S10 c6 96 := ⟨_, rfl⟩
  rw [← eS11]
  have G11 : GX (fun z => z = c6) S10 S11 := by rw [eS11]; exact gx_X q_c6
  have f_c6 : c6 ∉ gL S := GX.out Gt10 q_c6
  have n_a_c6 : a ≠ c6 := fun e => q_c6 (e ▸ h_a.1.1)
  have n_c6_a := n_a_c6.symm
  have n_c1_c6 : c1 ≠ c6 := fun e => q_c6 (e ▸ h_c1.1.1)
  have n_c6_c1 := n_c1_c6.symm
  have n_c2_c6 : c2 ≠ c6 := fun e => q_c6 (e ▸ h_c2.1.1)
  have n_c6_c2 := n_c2_c6.symm
  have n_c3_c6 : c3 ≠ c6 := fun e => q_c6 (e ▸ h_c3.1.1)
  have n_c6_c3 := n_c3_c6.symm
  have n_c4_c6 : c4 ≠ c6 := fun e => q_c6 (e ▸ h_c4.1.1)
  have n_c6_c4 := n_c4_c6.symm
  have n_c5_c6 : c5 ≠ c6 := fun e => q_c6 (e ▸ h_c5.1.1)
  have n_c6_c5 := n_c5_c6.symm
  have h_a := h_a.gx G11 n_a_c6
  have h_c1 := h_c1.gx G11 n_c1_c6
  have h_c2 := h_c2.gx G11 n_c2_c6
  have h_c3 := h_c3.gx G11 n_c3_c6
  have h_c4 := h_c4.gx G11 n_c4_c6
  have h_c5 := h_c5.gx G11 n_c5_c6
  have Gt11 : GX (fun z => z = a) S S11 := GX.tr Gt10 G11 (fun z hz e => absurd hz (e ▸ f_c6))
  have h_c6 : AR S11 c6 96 (fun _ => 0) := by rw [eS11]; exact ar_new
  have Nn := Nn.c q_c6 G11 h_c6.1.1
  refine V_prf (pc := 50) 9 6 294 dX9_init_50 (FL_X9_25 rfl) rfl rfl (fun _ => rfl) (fun _ => rfl) rfl rfl rfl h_a.1 ?_
  obtain ⟨S12, eS12⟩ : ∃ Z, Z = sR S11 294 a (some c6) := ⟨_, rfl⟩
  rw [← eS12]
  have G12 : GX (fun z => z = a) S11 S12 := by rw [eS12]; exact gx_R
  have h_c1 := h_c1.gx G12 n_c1_a
  have h_c2 := h_c2.gx G12 n_c2_a
  have h_c3 := h_c3.gx G12 n_c3_a
  have h_c4 := h_c4.gx G12 n_c4_a
  have h_c5 := h_c5.gx G12 n_c5_a
  have h_c6 := h_c6.gx G12 n_c6_a
  have Gt12 : GX (fun z => z = a) S S12 := GX.tr Gt11 G12 (fun z hz e => e)
  have Nn := Nn.gx G12
  have h_a : OB S12 a 9 (va_up (va_up (va_up (va_up (va_up (va_up (R) 288 (some c1)) 289 (some c2)) 290 (some c3)) 292 (some c4)) 293 (some c5)) 294 (some c6)) (fun _ => 0) := by rw [eS12]; exact h_a.wR
  refine V_aln (pc := 53) dX9_init_53 rfl rfl ?_
  refine V_iconst (pc := 54) (v := 5) dX9_init_54 (by decide) ?_
  refine V_na (pc := 55) 5 (ja_int dX9_init_55) (by decide) (by decide) (Nat.le_of_ble_eq_true rfl) (Nat.le_of_ble_eq_true rfl) (fun c7 q_c7 => ?_)
  obtain ⟨S13, eS13⟩ : ∃ Z, Z = nX S12 c7 5 := ⟨_, rfl⟩
  rw [← eS13]
  have G13 : GX (fun z => z = c7) S12 S13 := by rw [eS13]; exact gx_X q_c7
  have f_c7 : c7 ∉ gL S := GX.out Gt12 q_c7
  have n_a_c7 : a ≠ c7 := fun e => q_c7 (e ▸ h_a.1.1)
  have n_c7_a := n_a_c7.symm
  have n_c1_c7 : c1 ≠ c7 := fun e => q_c7 (e ▸ h_c1.1.1)
  have n_c7_c1 := n_c1_c7.symm
  have n_c2_c7 : c2 ≠ c7 := fun e => q_c7 (e ▸ h_c2.1.1)
  have n_c7_c2 := n_c2_c7.symm
  have n_c3_c7 : c3 ≠ c7 := fun e => q_c7 (e ▸ h_c3.1.1)
  have n_c7_c3 := n_c3_c7.symm
  have n_c4_c7 : c4 ≠ c7 := fun e => q_c7 (e ▸ h_c4.1.1)
  have n_c7_c4 := n_c4_c7.symm
  have n_c5_c7 : c5 ≠ c7 := fun e => q_c7 (e ▸ h_c5.1.1)
  have n_c7_c5 := n_c5_c7.symm
  have n_c6_c7 : c6 ≠ c7 := fun e => q_c7 (e ▸ h_c6.1.1)
  have n_c7_c6 := n_c6_c7.symm
  have h_a := h_a.gx G13 n_a_c7
  have h_c1 := h_c1.gx G13 n_c1_c7
  have h_c2 := h_c2.gx G13 n_c2_c7
  have h_c3 := h_c3.gx G13 n_c3_c7
  have h_c4 := h_c4.gx G13 n_c4_c7
  have h_c5 := h_c5.gx G13 n_c5_c7
  have h_c6 := h_c6.gx G13 n_c6_c7
  have Gt13 : GX (fun z => z = a) S S13 := GX.tr Gt12 G13 (fun z hz e => absurd hz (e ▸ f_c7))
  have h_c7 : AR S13 c7 5 (fun _ => 0) := by rw [eS13]; exact ar_new
  have Nn := Nn.c q_c7 G13 h_c7.1.1
  refine V_prf (pc := 57) 9 7 295 dX9_init_57 (FL_X9_28 rfl) rfl rfl (fun _ => rfl) (fun _ => rfl) rfl rfl rfl h_a.1 ?_
  obtain ⟨S14, eS14⟩ : ∃ Z, Z = sR S13 295 a (some c7) := ⟨_, rfl⟩
  rw [← eS14]
  have G14 : GX (fun z => z = a) S13 S14 := by rw [eS14]; exact gx_R
  have h_c1 := h_c1.gx G14 n_c1_a
  have h_c2 := h_c2.gx G14 n_c2_a
  have h_c3 := h_c3.gx G14 n_c3_a
  have h_c4 := h_c4.gx G14 n_c4_a
  have h_c5 := h_c5.gx G14 n_c5_a
  have h_c6 := h_c6.gx G14 n_c6_a
  have h_c7 := h_c7.gx G14 n_c7_a
  have Gt14 : GX (fun z => z = a) S S14 := GX.tr Gt13 G14 (fun z hz e => e)
  have Nn := Nn.gx G14
  have h_a : OB S14 a 9 (va_up (va_up (va_up (va_up (va_up (va_up (va_up (R) 288 (some c1)) 289 (some c2)) 290 (some c3)) 292 (some c4)) 293 (some c5)) 294 (some c6)) 295 (some c7)) (fun _ => 0) := by rw [eS14]; exact h_a.wR
  refine V_aln (pc := 60) dX9_init_60 rfl rfl ?_
  refine V_iconst (pc := 61) (v := 5) dX9_init_61 (by decide) ?_
  refine V_na (pc := 62) 5 (ja_int dX9_init_62) (by decide) (by decide) (Nat.le_of_ble_eq_true rfl) (Nat.le_of_ble_eq_true rfl) (fun c8 q_c8 => ?_)
  obtain ⟨S15, eS15⟩ : ∃ Z, Z = nX S14 c8 5 := ⟨_, rfl⟩
  rw [← eS15]
  have G15 : GX (fun z => z = c8) S14 S15 := by rw [eS15]; exact gx_X q_c8
  have f_c8 : c8 ∉ gL S := GX.out Gt14 q_c8
  have n_a_c8 : a ≠ c8 := fun e => q_c8 (e ▸ h_a.1.1)
  have n_c8_a := n_a_c8.symm
  have n_c1_c8 : c1 ≠ c8 := fun e => q_c8 (e ▸ h_c1.1.1)
  have n_c8_c1 := n_c1_c8.symm
  have n_c2_c8 : c2 ≠ c8 := fun e => q_c8 (e ▸ h_c2.1.1)
  have n_c8_c2 := n_c2_c8.symm
  have n_c3_c8 : c3 ≠ c8 := fun e => q_c8 (e ▸ h_c3.1.1)
  have n_c8_c3 := n_c3_c8.symm
  have n_c4_c8 : c4 ≠ c8 := fun e => q_c8 (e ▸ h_c4.1.1)
  have n_c8_c4 := n_c4_c8.symm
  have n_c5_c8 : c5 ≠ c8 := fun e => q_c8 (e ▸ h_c5.1.1)
  have n_c8_c5 := n_c5_c8.symm
  have n_c6_c8 : c6 ≠ c8 := fun e => q_c8 (e ▸ h_c6.1.1)
  have n_c8_c6 := n_c6_c8.symm
  have n_c7_c8 : c7 ≠ c8 := fun e => q_c8 (e ▸ h_c7.1.1)
  have n_c8_c7 := n_c7_c8.symm
  have h_a := h_a.gx G15 n_a_c8
  have h_c1 := h_c1.gx G15 n_c1_c8
  have h_c2 := h_c2.gx G15 n_c2_c8
  have h_c3 := h_c3.gx G15 n_c3_c8
  have h_c4 := h_c4.gx G15 n_c4_c8
  have h_c5 := h_c5.gx G15 n_c5_c8
  have h_c6 := h_c6.gx G15 n_c6_c8
  have h_c7 := h_c7.gx G15 n_c7_c8
  have Gt15 : GX (fun z => z = a) S S15 := GX.tr Gt14 G15 (fun z hz e => absurd hz (e ▸ f_c8))
  have h_c8 : AR S15 c8 5 (fun _ => 0) := by rw [eS15]; exact ar_new
  have Nn := Nn.c q_c8 G15 h_c8.1.1
  refine V_prf (pc := 64) 9 8 296 dX9_init_64 (FL_X9_31 rfl) rfl rfl (fun _ => rfl) (fun _ => rfl) rfl rfl rfl h_a.1 ?_
  obtain ⟨S16, eS16⟩ : ∃ Z, Z = sR S15 296 a (some c8) := ⟨_, rfl⟩
  rw [← eS16]
  have G16 : GX (fun z => z = a) S15 S16 := by rw [eS16]; exact gx_R
  have h_c1 := h_c1.gx G16 n_c1_a
  have h_c2 := h_c2.gx G16 n_c2_a
  have h_c3 := h_c3.gx G16 n_c3_a
  have h_c4 := h_c4.gx G16 n_c4_a
  have h_c5 := h_c5.gx G16 n_c5_a
  have h_c6 := h_c6.gx G16 n_c6_a
  have h_c7 := h_c7.gx G16 n_c7_a
  have h_c8 := h_c8.gx G16 n_c8_a
  have Gt16 : GX (fun z => z = a) S S16 := GX.tr Gt15 G16 (fun z hz e => e)
  have Nn := Nn.gx G16
  have h_a : OB S16 a 9 (va_up (va_up (va_up (va_up (va_up (va_up (va_up (va_up (R) 288 (some c1)) 289 (some c2)) 290 (some c3)) 292 (some c4)) 293 (some c5)) 294 (some c6)) 295 (some c7)) 296 (some c8)) (fun _ => 0) := by rw [eS16]; exact h_a.wR
  refine V_aln (pc := 67) dX9_init_67 rfl rfl ?_
  refine V_iconst (pc := 68) (v := 5) dX9_init_68 (by decide) ?_
  refine V_na (pc := 69) 5 (ja_int dX9_init_69) (by decide) (by decide) (Nat.le_of_ble_eq_true rfl) (Nat.le_of_ble_eq_true rfl) (fun c9 q_c9 => ?_)
  obtain ⟨S17, eS17⟩ : ∃ Z, Z = nX S16 c9 5 := ⟨_, rfl⟩
  rw [← eS17]
  have G17 : GX (fun z => z = c9) S16 S17 := by rw [eS17]; exact gx_X q_c9
  have f_c9 : c9 ∉ gL S := GX.out Gt16 q_c9
  have n_a_c9 : a ≠ c9 := fun e => q_c9 (e ▸ h_a.1.1)
  have n_c9_a := n_a_c9.symm
  have n_c1_c9 : c1 ≠ c9 := fun e => q_c9 (e ▸ h_c1.1.1)
  have n_c9_c1 := n_c1_c9.symm
  have n_c2_c9 : c2 ≠ c9 := fun e => q_c9 (e ▸ h_c2.1.1)
  have n_c9_c2 := n_c2_c9.symm
  have n_c3_c9 : c3 ≠ c9 := fun e => q_c9 (e ▸ h_c3.1.1)
  have n_c9_c3 := n_c3_c9.symm
  have n_c4_c9 : c4 ≠ c9 := fun e => q_c9 (e ▸ h_c4.1.1)
  have n_c9_c4 := n_c4_c9.symm
  have n_c5_c9 : c5 ≠ c9 := fun e => q_c9 (e ▸ h_c5.1.1)
  have n_c9_c5 := n_c5_c9.symm
  have n_c6_c9 : c6 ≠ c9 := fun e => q_c9 (e ▸ h_c6.1.1)
  have n_c9_c6 := n_c6_c9.symm
  have n_c7_c9 : c7 ≠ c9 := fun e => q_c9 (e ▸ h_c7.1.1)
  have n_c9_c7 := n_c7_c9.symm
  have n_c8_c9 : c8 ≠ c9 := fun e => q_c9 (e ▸ h_c8.1.1)
  have n_c9_c8 := n_c8_c9.symm
  have h_a := h_a.gx G17 n_a_c9
  have h_c1 := h_c1.gx G17 n_c1_c9
  have h_c2 := h_c2.gx G17 n_c2_c9
  have h_c3 := h_c3.gx G17 n_c3_c9
  have h_c4 := h_c4.gx G17 n_c4_c9
  have h_c5 := h_c5.gx G17 n_c5_c9
  have h_c6 := h_c6.gx G17 n_c6_c9
  have h_c7 := h_c7.gx G17 n_c7_c9
  have h_c8 := h_c8.gx G17 n_c8_c9
  have Gt17 : GX (fun z => z = a) S S17 := GX.tr Gt16 G17 (fun z hz e => absurd hz (e ▸ f_c9))
  have h_c9 : AR S17 c9 5 (fun _ => 0) := by rw [eS17]; exact ar_new
  have Nn := Nn.c q_c9 G17 h_c9.1.1
  refine V_prf (pc := 71) 9 9 297 dX9_init_71 (FL_X9_34 rfl) rfl rfl (fun _ => rfl) (fun _ => rfl) rfl rfl rfl h_a.1 ?_
  obtain ⟨S18, eS18⟩ : ∃ Z, Z = sR S17 297 a (some c9) := ⟨_, rfl⟩
  rw [← eS18]
  have G18 : GX (fun z => z = a) S17 S18 := by rw [eS18]; exact gx_R
  have h_c1 := h_c1.gx G18 n_c1_a
  have h_c2 := h_c2.gx G18 n_c2_a
  have h_c3 := h_c3.gx G18 n_c3_a
  have h_c4 := h_c4.gx G18 n_c4_a
  have h_c5 := h_c5.gx G18 n_c5_a
  have h_c6 := h_c6.gx G18 n_c6_a
  have h_c7 := h_c7.gx G18 n_c7_a
  have h_c8 := h_c8.gx G18 n_c8_a
  have h_c9 := h_c9.gx G18 n_c9_a
  have Gt18 : GX (fun z => z = a) S S18 := GX.tr Gt17 G18 (fun z hz e => e)
  have Nn := Nn.gx G18
  have h_a : OB S18 a 9 (va_up (va_up (va_up (va_up (va_up (va_up (va_up (va_up (va_up (R) 288 (some c1)) 289 (some c2)) 290 (some c3)) 292 (some c4)) 293 (some c5)) 294 (some c6)) 295 (some c7)) 296 (some c8)) 297 (some c9)) (fun _ => 0) := by rw [eS18]; exact h_a.wR
  refine V_aln (pc := 74) dX9_init_74 rfl rfl ?_
  refine V_iconst (pc := 75) (v := 5) dX9_init_75 (by decide) ?_
  refine V_na (pc := 76) 5 (ja_int dX9_init_76) (by decide) (by decide) (Nat.le_of_ble_eq_true rfl) (Nat.le_of_ble_eq_true rfl) (fun c10 q_c10 => ?_)
  obtain ⟨S19, eS19⟩ : ∃ Z, Z = nX S18 c10 5 := ⟨_, rfl⟩
  rw [← eS19]
  have G19 : GX (fun z => z = c10) S18 S19 := by rw [eS19]; exact gx_X q_c10
  have f_c10 : c10 ∉ gL S := GX.out Gt18 q_c10
  have n_a_c10 : a ≠ c10 := fun e => q_c10 (e ▸ h_a.1.1)
  have n_c10_a := n_a_c10.symm
  have n_c1_c10 : c1 ≠ c10 := fun e => q_c10 (e ▸ h_c1.1.1)
  have n_c10_c1 := n_c1_c10.symm
  have n_c2_c10 : c2 ≠ c10 := fun e => q_c10 (e ▸ h_c2.1.1)
  have n_c10_c2 := n_c2_c10.symm
  have n_c3_c10 : c3 ≠ c10 := fun e => q_c10 (e ▸ h_c3.1.1)
  have n_c10_c3 := n_c3_c10.symm
  have n_c4_c10 : c4 ≠ c10 := fun e => q_c10 (e ▸ h_c4.1.1)
  have n_c10_c4 := n_c4_c10.symm
  have n_c5_c10 : c5 ≠ c10 := fun e => q_c10 (e ▸ h_c5.1.1)
  have n_c10_c5 := n_c5_c10.symm
  have n_c6_c10 : c6 ≠ c10 := fun e => q_c10 (e ▸ h_c6.1.1)
  have n_c10_c6 := n_c6_c10.symm
  have n_c7_c10 : c7 ≠ c10 := fun e => q_c10 (e ▸ h_c7.1.1)
  have n_c10_c7 := n_c7_c10.symm
  have n_c8_c10 : c8 ≠ c10 := fun e => q_c10 (e ▸ h_c8.1.1)
  have n_c10_c8 := n_c8_c10.symm
  have n_c9_c10 : c9 ≠ c10 := fun e => q_c10 (e ▸ h_c9.1.1)
  have n_c10_c9 := n_c9_c10.symm
  have h_a := h_a.gx G19 n_a_c10
  have h_c1 := h_c1.gx G19 n_c1_c10
  have h_c2 := h_c2.gx G19 n_c2_c10
  have h_c3 := h_c3.gx G19 n_c3_c10
  have h_c4 := h_c4.gx G19 n_c4_c10
  have h_c5 := h_c5.gx G19 n_c5_c10
  have h_c6 := h_c6.gx G19 n_c6_c10
  have h_c7 := h_c7.gx G19 n_c7_c10
  have h_c8 := h_c8.gx G19 n_c8_c10
  have h_c9 := h_c9.gx G19 n_c9_c10
  have Gt19 : GX (fun z => z = a) S S19 := GX.tr Gt18 G19 (fun z hz e => absurd hz (e ▸ f_c10))
  have h_c10 : AR S19 c10 5 (fun _ => 0) := by rw [eS19]; exact ar_new
  have Nn := Nn.c q_c10 G19 h_c10.1.1
  refine V_prf (pc := 78) 9 10 298 dX9_init_78 (FL_X9_37 rfl) rfl rfl (fun _ => rfl) (fun _ => rfl) rfl rfl rfl h_a.1 ?_
  obtain ⟨S20, eS20⟩ : ∃ Z, Z = sR S19 298 a (some c10) := ⟨_, rfl⟩
  rw [← eS20]
  have G20 : GX (fun z => z = a) S19 S20 := by rw [eS20]; exact gx_R
  have h_c1 := h_c1.gx G20 n_c1_a
  have h_c2 := h_c2.gx G20 n_c2_a
  have h_c3 := h_c3.gx G20 n_c3_a
  have h_c4 := h_c4.gx G20 n_c4_a
  have h_c5 := h_c5.gx G20 n_c5_a
  have h_c6 := h_c6.gx G20 n_c6_a
  have h_c7 := h_c7.gx G20 n_c7_a
  have h_c8 := h_c8.gx G20 n_c8_a
  have h_c9 := h_c9.gx G20 n_c9_a
  have h_c10 := h_c10.gx G20 n_c10_a
  have Gt20 : GX (fun z => z = a) S S20 := GX.tr Gt19 G20 (fun z hz e => e)
  have Nn := Nn.gx G20
  have h_a : OB S20 a 9 (va_up (va_up (va_up (va_up (va_up (va_up (va_up (va_up (va_up (va_up (R) 288 (some c1)) 289 (some c2)) 290 (some c3)) 292 (some c4)) 293 (some c5)) 294 (some c6)) 295 (some c7)) 296 (some c8)) 297 (some c9)) 298 (some c10)) (fun _ => 0) := by rw [eS20]; exact h_a.wR
  refine V_aln (pc := 81) dX9_init_81 rfl rfl ?_
  refine V_bipush (pc := 82) (v := 120) dX9_init_82 (by decide) ?_
  refine V_na (pc := 84) 120 (ja_int dX9_init_84) (by decide) (by decide) (Nat.le_of_ble_eq_true rfl) (Nat.le_of_ble_eq_true rfl) (fun c11 q_c11 => ?_)
  obtain ⟨S21, eS21⟩ : ∃ Z, Z = nX S20 c11 120 := ⟨_, rfl⟩
  rw [← eS21]
  have G21 : GX (fun z => z = c11) S20 S21 := by rw [eS21]; exact gx_X q_c11
  have f_c11 : c11 ∉ gL S := GX.out Gt20 q_c11
  have n_a_c11 : a ≠ c11 := fun e => q_c11 (e ▸ h_a.1.1)
  have n_c11_a := n_a_c11.symm
  have n_c1_c11 : c1 ≠ c11 := fun e => q_c11 (e ▸ h_c1.1.1)
  have n_c11_c1 := n_c1_c11.symm
  have n_c2_c11 : c2 ≠ c11 := fun e => q_c11 (e ▸ h_c2.1.1)
  have n_c11_c2 := n_c2_c11.symm
  have n_c3_c11 : c3 ≠ c11 := fun e => q_c11 (e ▸ h_c3.1.1)
  have n_c11_c3 := n_c3_c11.symm
  have n_c4_c11 : c4 ≠ c11 := fun e => q_c11 (e ▸ h_c4.1.1)
  have n_c11_c4 := n_c4_c11.symm
  have n_c5_c11 : c5 ≠ c11 := fun e => q_c11 (e ▸ h_c5.1.1)
  have n_c11_c5 := n_c5_c11.symm
  have n_c6_c11 : c6 ≠ c11 := fun e => q_c11 (e ▸ h_c6.1.1)
  have n_c11_c6 := n_c6_c11.symm
  have n_c7_c11 : c7 ≠ c11 := fun e => q_c11 (e ▸ h_c7.1.1)
  have n_c11_c7 := n_c7_c11.symm
  have n_c8_c11 : c8 ≠ c11 := fun e => q_c11 (e ▸ h_c8.1.1)
  have n_c11_c8 := n_c8_c11.symm
  have n_c9_c11 : c9 ≠ c11 := fun e => q_c11 (e ▸ h_c9.1.1)
  have n_c11_c9 := n_c9_c11.symm
  have n_c10_c11 : c10 ≠ c11 := fun e => q_c11 (e ▸ h_c10.1.1)
  have n_c11_c10 := n_c10_c11.symm
  have h_a := h_a.gx G21 n_a_c11
  have h_c1 := h_c1.gx G21 n_c1_c11
  have h_c2 := h_c2.gx G21 n_c2_c11
  have h_c3 := h_c3.gx G21 n_c3_c11
  have h_c4 := h_c4.gx G21 n_c4_c11
  have h_c5 := h_c5.gx G21 n_c5_c11
  have h_c6 := h_c6.gx G21 n_c6_c11
  have h_c7 := h_c7.gx G21 n_c7_c11
  have h_c8 := h_c8.gx G21 n_c8_c11
  have h_c9 := h_c9.gx G21 n_c9_c11
  have h_c10 := h_c10.gx G21 n_c10_c11
  have Gt21 : GX (fun z => z = a) S S21 := GX.tr Gt20 G21 (fun z hz e => absurd hz (e ▸ f_c11))
  have h_c11 : AR S21 c11 120 (fun _ => 0) := by rw [eS21]; exact ar_new
  have Nn := Nn.c q_c11 G21 h_c11.1.1
  refine V_prf (pc := 86) 9 11 299 dX9_init_86 (FL_X9_40 rfl) rfl rfl (fun _ => rfl) (fun _ => rfl) rfl rfl rfl h_a.1 ?_
  obtain ⟨S22, eS22⟩ : ∃ Z, Z = sR S21 299 a (some c11) := ⟨_, rfl⟩
  rw [← eS22]
  have G22 : GX (fun z => z = a) S21 S22 := by rw [eS22]; exact gx_R
  have h_c1 := h_c1.gx G22 n_c1_a
  have h_c2 := h_c2.gx G22 n_c2_a
  have h_c3 := h_c3.gx G22 n_c3_a
  have h_c4 := h_c4.gx G22 n_c4_a
  have h_c5 := h_c5.gx G22 n_c5_a
  have h_c6 := h_c6.gx G22 n_c6_a
  have h_c7 := h_c7.gx G22 n_c7_a
  have h_c8 := h_c8.gx G22 n_c8_a
  have h_c9 := h_c9.gx G22 n_c9_a
  have h_c10 := h_c10.gx G22 n_c10_a
  have h_c11 := h_c11.gx G22 n_c11_a
  have Gt22 : GX (fun z => z = a) S S22 := GX.tr Gt21 G22 (fun z hz e => e)
  have Nn := Nn.gx G22
  have h_a : OB S22 a 9 (va_up (va_up (va_up (va_up (va_up (va_up (va_up (va_up (va_up (va_up (va_up (R) 288 (some c1)) 289 (some c2)) 290 (some c3)) 292 (some c4)) 293 (some c5)) 294 (some c6)) 295 (some c7)) 296 (some c8)) 297 (some c9)) 298 (some c10)) 299 (some c11)) (fun _ => 0) := by rw [eS22]; exact h_a.wR
  refine V_aln (pc := 89) dX9_init_89 rfl rfl ?_
  refine V_bipush (pc := 90) (v := 96) dX9_init_90 (by decide) ?_
  refine V_na (pc := 92) 96 (ja_int dX9_init_92) (by decide) (by decide) (Nat.le_of_ble_eq_true rfl) (Nat.le_of_ble_eq_true rfl) (fun c12 q_c12 => ?_)
  obtain ⟨S23, eS23⟩ : ∃ Z, Z = nX S22 c12 96 := ⟨_, rfl⟩
  rw [← eS23]
  have G23 : GX (fun z => z = c12) S22 S23 := by rw [eS23]; exact gx_X q_c12
  have f_c12 : c12 ∉ gL S := GX.out Gt22 q_c12
  have n_a_c12 : a ≠ c12 := fun e => q_c12 (e ▸ h_a.1.1)
  have n_c12_a := n_a_c12.symm
  have n_c1_c12 : c1 ≠ c12 := fun e => q_c12 (e ▸ h_c1.1.1)
  have n_c12_c1 := n_c1_c12.symm
  have n_c2_c12 : c2 ≠ c12 := fun e => q_c12 (e ▸ h_c2.1.1)
  have n_c12_c2 := n_c2_c12.symm
  have n_c3_c12 : c3 ≠ c12 := fun e => q_c12 (e ▸ h_c3.1.1)
  have n_c12_c3 := n_c3_c12.symm
  have n_c4_c12 : c4 ≠ c12 := fun e => q_c12 (e ▸ h_c4.1.1)
  have n_c12_c4 := n_c4_c12.symm
  have n_c5_c12 : c5 ≠ c12 := fun e => q_c12 (e ▸ h_c5.1.1)
  have n_c12_c5 := n_c5_c12.symm
  have n_c6_c12 : c6 ≠ c12 := fun e => q_c12 (e ▸ h_c6.1.1)
  have n_c12_c6 := n_c6_c12.symm
  have n_c7_c12 : c7 ≠ c12 := fun e => q_c12 (e ▸ h_c7.1.1)
  have n_c12_c7 := n_c7_c12.symm
  have n_c8_c12 : c8 ≠ c12 := fun e => q_c12 (e ▸ h_c8.1.1)
  have n_c12_c8 := n_c8_c12.symm
  have n_c9_c12 : c9 ≠ c12 := fun e => q_c12 (e ▸ h_c9.1.1)
  have n_c12_c9 := n_c9_c12.symm
  have n_c10_c12 : c10 ≠ c12 := fun e => q_c12 (e ▸ h_c10.1.1)
  have n_c12_c10 := n_c10_c12.symm
  have n_c11_c12 : c11 ≠ c12 := fun e => q_c12 (e ▸ h_c11.1.1)
  have n_c12_c11 := n_c11_c12.symm
  have h_a := h_a.gx G23 n_a_c12
  have h_c1 := h_c1.gx G23 n_c1_c12
  have h_c2 := h_c2.gx G23 n_c2_c12
  have h_c3 := h_c3.gx G23 n_c3_c12
  have h_c4 := h_c4.gx G23 n_c4_c12
  have h_c5 := h_c5.gx G23 n_c5_c12
  have h_c6 := h_c6.gx G23 n_c6_c12
  have h_c7 := h_c7.gx G23 n_c7_c12
  have h_c8 := h_c8.gx G23 n_c8_c12
  have h_c9 := h_c9.gx G23 n_c9_c12
  have h_c10 := h_c10.gx G23 n_c10_c12
  have h_c11 := h_c11.gx G23 n_c11_c12
  have Gt23 : GX (fun z => z = a) S S23 := GX.tr Gt22 G23 (fun z hz e => absurd hz (e ▸ f_c12))
  have h_c12 : AR S23 c12 96 (fun _ => 0) := by rw [eS23]; exact ar_new
  have Nn := Nn.c q_c12 G23 h_c12.1.1
  refine V_prf (pc := 94) 9 12 300 dX9_init_94 (FL_X9_43 rfl) rfl rfl (fun _ => rfl) (fun _ => rfl) rfl rfl rfl h_a.1 ?_
  obtain ⟨S24, eS24⟩ : ∃ Z, Z = sR S23 300 a (some c12) := ⟨_, rfl⟩
  rw [← eS24]
  have G24 : GX (fun z => z = a) S23 S24 := by rw [eS24]; exact gx_R
  have h_c1 := h_c1.gx G24 n_c1_a
  have h_c2 := h_c2.gx G24 n_c2_a
  have h_c3 := h_c3.gx G24 n_c3_a
  have h_c4 := h_c4.gx G24 n_c4_a
  have h_c5 := h_c5.gx G24 n_c5_a
  have h_c6 := h_c6.gx G24 n_c6_a
  have h_c7 := h_c7.gx G24 n_c7_a
  have h_c8 := h_c8.gx G24 n_c8_a
  have h_c9 := h_c9.gx G24 n_c9_a
  have h_c10 := h_c10.gx G24 n_c10_a
  have h_c11 := h_c11.gx G24 n_c11_a
  have h_c12 := h_c12.gx G24 n_c12_a
  have Gt24 : GX (fun z => z = a) S S24 := GX.tr Gt23 G24 (fun z hz e => e)
  have Nn := Nn.gx G24
  have h_a : OB S24 a 9 (va_up (va_up (va_up (va_up (va_up (va_up (va_up (va_up (va_up (va_up (va_up (va_up (R) 288 (some c1)) 289 (some c2)) 290 (some c3)) 292 (some c4)) 293 (some c5)) 294 (some c6)) 295 (some c7)) 296 (some c8)) 297 (some c9)) 298 (some c10)) 299 (some c11)) 300 (some c12)) (fun _ => 0) := by rw [eS24]; exact h_a.wR
  refine V_aln (pc := 97) dX9_init_97 rfl rfl ?_
  refine V_sipush (pc := 98) (v := 128) dX9_init_98 (by decide) ?_
  refine V_na (pc := 101) 128 (ja_int dX9_init_101) (by decide) (by decide) (Nat.le_of_ble_eq_true rfl) (Nat.le_of_ble_eq_true rfl) (fun c13 q_c13 => ?_)
  obtain ⟨S25, eS25⟩ : ∃ Z, Z = nX S24 c13 128 := ⟨_, rfl⟩
  rw [← eS25]
  have G25 : GX (fun z => z = c13) S24 S25 := by rw [eS25]; exact gx_X q_c13
  have f_c13 : c13 ∉ gL S := GX.out Gt24 q_c13
  have n_a_c13 : a ≠ c13 := fun e => q_c13 (e ▸ h_a.1.1)
  have n_c13_a := n_a_c13.symm
  have n_c1_c13 : c1 ≠ c13 := fun e => q_c13 (e ▸ h_c1.1.1)
  have n_c13_c1 := n_c1_c13.symm
  have n_c2_c13 : c2 ≠ c13 := fun e => q_c13 (e ▸ h_c2.1.1)
  have n_c13_c2 := n_c2_c13.symm
  have n_c3_c13 : c3 ≠ c13 := fun e => q_c13 (e ▸ h_c3.1.1)
  have n_c13_c3 := n_c3_c13.symm
  have n_c4_c13 : c4 ≠ c13 := fun e => q_c13 (e ▸ h_c4.1.1)
  have n_c13_c4 := n_c4_c13.symm
  have n_c5_c13 : c5 ≠ c13 := fun e => q_c13 (e ▸ h_c5.1.1)
  have n_c13_c5 := n_c5_c13.symm
  have n_c6_c13 : c6 ≠ c13 := fun e => q_c13 (e ▸ h_c6.1.1)
  have n_c13_c6 := n_c6_c13.symm
  have n_c7_c13 : c7 ≠ c13 := fun e => q_c13 (e ▸ h_c7.1.1)
  have n_c13_c7 := n_c7_c13.symm
  have n_c8_c13 : c8 ≠ c13 := fun e => q_c13 (e ▸ h_c8.1.1)
  have n_c13_c8 := n_c8_c13.symm
  have n_c9_c13 : c9 ≠ c13 := fun e => q_c13 (e ▸ h_c9.1.1)
  have n_c13_c9 := n_c9_c13.symm
  have n_c10_c13 : c10 ≠ c13 := fun e => q_c13 (e ▸ h_c10.1.1)
  have n_c13_c10 := n_c10_c13.symm
  have n_c11_c13 : c11 ≠ c13 := fun e => q_c13 (e ▸ h_c11.1.1)
  have n_c13_c11 := n_c11_c13.symm
  have n_c12_c13 : c12 ≠ c13 := fun e => q_c13 (e ▸ h_c12.1.1)
  have n_c13_c12 := n_c12_c13.symm
  have h_a := h_a.gx G25 n_a_c13
  have h_c1 := h_c1.gx G25 n_c1_c13
  have h_c2 := h_c2.gx G25 n_c2_c13
  have h_c3 := h_c3.gx G25 n_c3_c13
  have h_c4 := h_c4.gx G25 n_c4_c13
  have h_c5 := h_c5.gx G25 n_c5_c13
  have h_c6 := h_c6.gx G25 n_c6_c13
  have h_c7 := h_c7.gx G25 n_c7_c13
  have h_c8 := h_c8.gx G25 n_c8_c13
  have h_c9 := h_c9.gx G25 n_c9_c13
  have h_c10 := h_c10.gx G25 n_c10_c13
  have h_c11 := h_c11.gx G25 n_c11_c13
  have h_c12 := h_c12.gx G25 n_c12_c13
  have Gt25 : GX (fun z => z = a) S S25 := GX.tr Gt24 G25 (fun z hz e => absurd hz (e ▸ f_c13))
  have h_c13 : AR S25 c13 128 (fun _ => 0) := by rw [eS25]; exact ar_new
  have Nn := Nn.c q_c13 G25 h_c13.1.1
  refine V_prf (pc := 103) 9 24 312 dX9_init_103 (FL_X9_46 rfl) rfl rfl (fun _ => rfl) (fun _ => rfl) rfl rfl rfl h_a.1 ?_
  obtain ⟨S26, eS26⟩ : ∃ Z, Z = sR S25 312 a (some c13) := ⟨_, rfl⟩
  rw [← eS26]
  have G26 : GX (fun z => z = a) S25 S26 := by rw [eS26]; exact gx_R
  have h_c1 := h_c1.gx G26 n_c1_a
  have h_c2 := h_c2.gx G26 n_c2_a
  have h_c3 := h_c3.gx G26 n_c3_a
  have h_c4 := h_c4.gx G26 n_c4_a
  have h_c5 := h_c5.gx G26 n_c5_a
  have h_c6 := h_c6.gx G26 n_c6_a
  have h_c7 := h_c7.gx G26 n_c7_a
  have h_c8 := h_c8.gx G26 n_c8_a
  have h_c9 := h_c9.gx G26 n_c9_a
  have h_c10 := h_c10.gx G26 n_c10_a
  have h_c11 := h_c11.gx G26 n_c11_a
  have h_c12 := h_c12.gx G26 n_c12_a
  have h_c13 := h_c13.gx G26 n_c13_a
  have Gt26 : GX (fun z => z = a) S S26 := GX.tr Gt25 G26 (fun z hz e => e)
  have Nn := Nn.gx G26
  have h_a : OB S26 a 9 (va_up (va_up (va_up (va_up (va_up (va_up (va_up (va_up (va_up (va_up (va_up (va_up (va_up (R) 288 (some c1)) 289 (some c2)) 290 (some c3)) 292 (some c4)) 293 (some c5)) 294 (some c6)) 295 (some c7)) 296 (some c8)) 297 (some c9)) 298 (some c10)) 299 (some c11)) 300 (some c12)) 312 (some c13)) (fun _ => 0) := by rw [eS26]; exact h_a.wR
  refine V_aln (pc := 106) dX9_init_106 rfl rfl ?_
  refine V_bipush (pc := 107) (v := 100) dX9_init_107 (by decide) ?_
  refine V_na (pc := 109) 100 (ja_int dX9_init_109) (by decide) (by decide) (Nat.le_of_ble_eq_true rfl) (Nat.le_of_ble_eq_true rfl) (fun c14 q_c14 => ?_)
  obtain ⟨S27, eS27⟩ : ∃ Z, Z = nX S26 c14 100 := ⟨_, rfl⟩
  rw [← eS27]
  have G27 : GX (fun z => z = c14) S26 S27 := by rw [eS27]; exact gx_X q_c14
  have f_c14 : c14 ∉ gL S := GX.out Gt26 q_c14
  have n_a_c14 : a ≠ c14 := fun e => q_c14 (e ▸ h_a.1.1)
  have n_c14_a := n_a_c14.symm
  have n_c1_c14 : c1 ≠ c14 := fun e => q_c14 (e ▸ h_c1.1.1)
  have n_c14_c1 := n_c1_c14.symm
  have n_c2_c14 : c2 ≠ c14 := fun e => q_c14 (e ▸ h_c2.1.1)
  have n_c14_c2 := n_c2_c14.symm
  have n_c3_c14 : c3 ≠ c14 := fun e => q_c14 (e ▸ h_c3.1.1)
  have n_c14_c3 := n_c3_c14.symm
  have n_c4_c14 : c4 ≠ c14 := fun e => q_c14 (e ▸ h_c4.1.1)
  have n_c14_c4 := n_c4_c14.symm
  have n_c5_c14 : c5 ≠ c14 := fun e => q_c14 (e ▸ h_c5.1.1)
  have n_c14_c5 := n_c5_c14.symm
  have n_c6_c14 : c6 ≠ c14 := fun e => q_c14 (e ▸ h_c6.1.1)
  have n_c14_c6 := n_c6_c14.symm
  have n_c7_c14 : c7 ≠ c14 := fun e => q_c14 (e ▸ h_c7.1.1)
  have n_c14_c7 := n_c7_c14.symm
  have n_c8_c14 : c8 ≠ c14 := fun e => q_c14 (e ▸ h_c8.1.1)
  have n_c14_c8 := n_c8_c14.symm
  have n_c9_c14 : c9 ≠ c14 := fun e => q_c14 (e ▸ h_c9.1.1)
  have n_c14_c9 := n_c9_c14.symm
  have n_c10_c14 : c10 ≠ c14 := fun e => q_c14 (e ▸ h_c10.1.1)
  have n_c14_c10 := n_c10_c14.symm
  have n_c11_c14 : c11 ≠ c14 := fun e => q_c14 (e ▸ h_c11.1.1)
  have n_c14_c11 := n_c11_c14.symm
  have n_c12_c14 : c12 ≠ c14 := fun e => q_c14 (e ▸ h_c12.1.1)
  have n_c14_c12 := n_c12_c14.symm
  have n_c13_c14 : c13 ≠ c14 := fun e => q_c14 (e ▸ h_c13.1.1)
  have n_c14_c13 := n_c13_c14.symm
  have h_a := h_a.gx G27 n_a_c14
  have h_c1 := h_c1.gx G27 n_c1_c14
  have h_c2 := h_c2.gx G27 n_c2_c14
  have h_c3 := h_c3.gx G27 n_c3_c14
  have h_c4 := h_c4.gx G27 n_c4_c14
  have h_c5 := h_c5.gx G27 n_c5_c14
  have h_c6 := h_c6.gx G27 n_c6_c14
  have h_c7 := h_c7.gx G27 n_c7_c14
  have h_c8 := h_c8.gx G27 n_c8_c14
  have h_c9 := h_c9.gx G27 n_c9_c14
  have h_c10 := h_c10.gx G27 n_c10_c14
  have h_c11 := h_c11.gx G27 n_c11_c14
  have h_c12 := h_c12.gx G27 n_c12_c14
  have h_c13 := h_c13.gx G27 n_c13_c14
  have Gt27 : GX (fun z => z = a) S S27 := GX.tr Gt26 G27 (fun z hz e => absurd hz (e ▸ f_c14))
  have h_c14 : AR S27 c14 100 (fun _ => 0) := by rw [eS27]; exact ar_new
  have Nn := Nn.c q_c14 G27 h_c14.1.1
  refine V_prf (pc := 111) 9 25 313 dX9_init_111 (FL_X9_49 rfl) rfl rfl (fun _ => rfl) (fun _ => rfl) rfl rfl rfl h_a.1 ?_
  obtain ⟨S28, eS28⟩ : ∃ Z, Z = sR S27 313 a (some c14) := ⟨_, rfl⟩
  rw [← eS28]
  have G28 : GX (fun z => z = a) S27 S28 := by rw [eS28]; exact gx_R
  have h_c1 := h_c1.gx G28 n_c1_a
  have h_c2 := h_c2.gx G28 n_c2_a
  have h_c3 := h_c3.gx G28 n_c3_a
  have h_c4 := h_c4.gx G28 n_c4_a
  have h_c5 := h_c5.gx G28 n_c5_a
  have h_c6 := h_c6.gx G28 n_c6_a
  have h_c7 := h_c7.gx G28 n_c7_a
  have h_c8 := h_c8.gx G28 n_c8_a
  have h_c9 := h_c9.gx G28 n_c9_a
  have h_c10 := h_c10.gx G28 n_c10_a
  have h_c11 := h_c11.gx G28 n_c11_a
  have h_c12 := h_c12.gx G28 n_c12_a
  have h_c13 := h_c13.gx G28 n_c13_a
  have h_c14 := h_c14.gx G28 n_c14_a
  have Gt28 : GX (fun z => z = a) S S28 := GX.tr Gt27 G28 (fun z hz e => e)
  have Nn := Nn.gx G28
  have h_a : OB S28 a 9 (va_up (va_up (va_up (va_up (va_up (va_up (va_up (va_up (va_up (va_up (va_up (va_up (va_up (va_up (R) 288 (some c1)) 289 (some c2)) 290 (some c3)) 292 (some c4)) 293 (some c5)) 294 (some c6)) 295 (some c7)) 296 (some c8)) 297 (some c9)) 298 (some c10)) 299 (some c11)) 300 (some c12)) 312 (some c13)) 313 (some c14)) (fun _ => 0) := by rw [eS28]; exact h_a.wR
  refine V_aln (pc := 114) dX9_init_114 rfl rfl ?_
  refine V_bipush (pc := 115) (v := 24) dX9_init_115 (by decide) ?_
  refine V_na (pc := 117) 24 (ja_int dX9_init_117) (by decide) (by decide) (Nat.le_of_ble_eq_true rfl) (Nat.le_of_ble_eq_true rfl) (fun c15 q_c15 => ?_)
  obtain ⟨S29, eS29⟩ : ∃ Z, Z = nX S28 c15 24 := ⟨_, rfl⟩
  rw [← eS29]
  have G29 : GX (fun z => z = c15) S28 S29 := by rw [eS29]; exact gx_X q_c15
  have f_c15 : c15 ∉ gL S := GX.out Gt28 q_c15
  have n_a_c15 : a ≠ c15 := fun e => q_c15 (e ▸ h_a.1.1)
  have n_c15_a := n_a_c15.symm
  have n_c1_c15 : c1 ≠ c15 := fun e => q_c15 (e ▸ h_c1.1.1)
  have n_c15_c1 := n_c1_c15.symm
  have n_c2_c15 : c2 ≠ c15 := fun e => q_c15 (e ▸ h_c2.1.1)
  have n_c15_c2 := n_c2_c15.symm
  have n_c3_c15 : c3 ≠ c15 := fun e => q_c15 (e ▸ h_c3.1.1)
  have n_c15_c3 := n_c3_c15.symm
  have n_c4_c15 : c4 ≠ c15 := fun e => q_c15 (e ▸ h_c4.1.1)
  have n_c15_c4 := n_c4_c15.symm
  have n_c5_c15 : c5 ≠ c15 := fun e => q_c15 (e ▸ h_c5.1.1)
  have n_c15_c5 := n_c5_c15.symm
  have n_c6_c15 : c6 ≠ c15 := fun e => q_c15 (e ▸ h_c6.1.1)
  have n_c15_c6 := n_c6_c15.symm
  have n_c7_c15 : c7 ≠ c15 := fun e => q_c15 (e ▸ h_c7.1.1)
  have n_c15_c7 := n_c7_c15.symm
  have n_c8_c15 : c8 ≠ c15 := fun e => q_c15 (e ▸ h_c8.1.1)
  have n_c15_c8 := n_c8_c15.symm
  have n_c9_c15 : c9 ≠ c15 := fun e => q_c15 (e ▸ h_c9.1.1)
  have n_c15_c9 := n_c9_c15.symm
  have n_c10_c15 : c10 ≠ c15 := fun e => q_c15 (e ▸ h_c10.1.1)
  have n_c15_c10 := n_c10_c15.symm
  have n_c11_c15 : c11 ≠ c15 := fun e => q_c15 (e ▸ h_c11.1.1)
  have n_c15_c11 := n_c11_c15.symm
  have n_c12_c15 : c12 ≠ c15 := fun e => q_c15 (e ▸ h_c12.1.1)
  have n_c15_c12 := n_c12_c15.symm
  have n_c13_c15 : c13 ≠ c15 := fun e => q_c15 (e ▸ h_c13.1.1)
  have n_c15_c13 := n_c13_c15.symm
  have n_c14_c15 : c14 ≠ c15 := fun e => q_c15 (e ▸ h_c14.1.1)
  have n_c15_c14 := n_c14_c15.symm
  have h_a := h_a.gx G29 n_a_c15
  have h_c1 := h_c1.gx G29 n_c1_c15
  have h_c2 := h_c2.gx G29 n_c2_c15
  have h_c3 := h_c3.gx G29 n_c3_c15
  have h_c4 := h_c4.gx G29 n_c4_c15
  have h_c5 := h_c5.gx G29 n_c5_c15
  have h_c6 := h_c6.gx G29 n_c6_c15
  have h_c7 := h_c7.gx G29 n_c7_c15
  have h_c8 := h_c8.gx G29 n_c8_c15
  have h_c9 := h_c9.gx G29 n_c9_c15
  have h_c10 := h_c10.gx G29 n_c10_c15
  have h_c11 := h_c11.gx G29 n_c11_c15
  have h_c12 := h_c12.gx G29 n_c12_c15
  have h_c13 := h_c13.gx G29 n_c13_c15
  have h_c14 := h_c14.gx G29 n_c14_c15
  have Gt29 : GX (fun z => z = a) S S29 := GX.tr Gt28 G29 (fun z hz e => absurd hz (e ▸ f_c15))
  have h_c15 : AR S29 c15 24 (fun _ => 0) := by rw [eS29]; exact ar_new
  have Nn := Nn.c q_c15 G29 h_c15.1.1
  refine V_prf (pc := 119) 9 26 314 dX9_init_119 (FL_X9_52 rfl) rfl rfl (fun _ => rfl) (fun _ => rfl) rfl rfl rfl h_a.1 ?_
  obtain ⟨S30, eS30⟩ : ∃ Z, Z = sR S29 314 a (some c15) := ⟨_, rfl⟩
  rw [← eS30]
  have G30 : GX (fun z => z = a) S29 S30 := by rw [eS30]; exact gx_R
  have h_c1 := h_c1.gx G30 n_c1_a
  have h_c2 := h_c2.gx G30 n_c2_a
  have h_c3 := h_c3.gx G30 n_c3_a
  have h_c4 := h_c4.gx G30 n_c4_a
  have h_c5 := h_c5.gx G30 n_c5_a
  have h_c6 := h_c6.gx G30 n_c6_a
  have h_c7 := h_c7.gx G30 n_c7_a
  have h_c8 := h_c8.gx G30 n_c8_a
  have h_c9 := h_c9.gx G30 n_c9_a
  have h_c10 := h_c10.gx G30 n_c10_a
  have h_c11 := h_c11.gx G30 n_c11_a
  have h_c12 := h_c12.gx G30 n_c12_a
  have h_c13 := h_c13.gx G30 n_c13_a
  have h_c14 := h_c14.gx G30 n_c14_a
  have h_c15 := h_c15.gx G30 n_c15_a
  have Gt30 : GX (fun z => z = a) S S30 := GX.tr Gt29 G30 (fun z hz e => e)
  have Nn := Nn.gx G30
  have h_a : OB S30 a 9 (va_up (va_up (va_up (va_up (va_up (va_up (va_up (va_up (va_up (va_up (va_up (va_up (va_up (va_up (va_up (R) 288 (some c1)) 289 (some c2)) 290 (some c3)) 292 (some c4)) 293 (some c5)) 294 (some c6)) 295 (some c7)) 296 (some c8)) 297 (some c9)) 298 (some c10)) 299 (some c11)) 300 (some c12)) 312 (some c13)) 313 (some c14)) 314 (some c15)) (fun _ => 0) := by rw [eS30]; exact h_a.wR
  refine V_aln (pc := 122) dX9_init_122 rfl rfl ?_
  refine V_bipush (pc := 123) (v := 60) dX9_init_123 (by decide) ?_
  refine V_na (pc := 125) 60 (ja_int dX9_init_125) (by decide) (by decide) (Nat.le_of_ble_eq_true rfl) (Nat.le_of_ble_eq_true rfl) (fun c16 q_c16 => ?_)
  obtain ⟨S31, eS31⟩ : ∃ Z, Z = nX S30 c16 60 := ⟨_, rfl⟩
  rw [← eS31]
  have G31 : GX (fun z => z = c16) S30 S31 := by rw [eS31]; exact gx_X q_c16
  have f_c16 : c16 ∉ gL S := GX.out Gt30 q_c16
  have n_a_c16 : a ≠ c16 := fun e => q_c16 (e ▸ h_a.1.1)
  have n_c16_a := n_a_c16.symm
  have n_c1_c16 : c1 ≠ c16 := fun e => q_c16 (e ▸ h_c1.1.1)
  have n_c16_c1 := n_c1_c16.symm
  have n_c2_c16 : c2 ≠ c16 := fun e => q_c16 (e ▸ h_c2.1.1)
  have n_c16_c2 := n_c2_c16.symm
  have n_c3_c16 : c3 ≠ c16 := fun e => q_c16 (e ▸ h_c3.1.1)
  have n_c16_c3 := n_c3_c16.symm
  have n_c4_c16 : c4 ≠ c16 := fun e => q_c16 (e ▸ h_c4.1.1)
  have n_c16_c4 := n_c4_c16.symm
  have n_c5_c16 : c5 ≠ c16 := fun e => q_c16 (e ▸ h_c5.1.1)
  have n_c16_c5 := n_c5_c16.symm
  have n_c6_c16 : c6 ≠ c16 := fun e => q_c16 (e ▸ h_c6.1.1)
  have n_c16_c6 := n_c6_c16.symm
  have n_c7_c16 : c7 ≠ c16 := fun e => q_c16 (e ▸ h_c7.1.1)
  have n_c16_c7 := n_c7_c16.symm
  have n_c8_c16 : c8 ≠ c16 := fun e => q_c16 (e ▸ h_c8.1.1)
  have n_c16_c8 := n_c8_c16.symm
  have n_c9_c16 : c9 ≠ c16 := fun e => q_c16 (e ▸ h_c9.1.1)
  have n_c16_c9 := n_c9_c16.symm
  have n_c10_c16 : c10 ≠ c16 := fun e => q_c16 (e ▸ h_c10.1.1)
  have n_c16_c10 := n_c10_c16.symm
  have n_c11_c16 : c11 ≠ c16 := fun e => q_c16 (e ▸ h_c11.1.1)
  have n_c16_c11 := n_c11_c16.symm
  have n_c12_c16 : c12 ≠ c16 := fun e => q_c16 (e ▸ h_c12.1.1)
  have n_c16_c12 := n_c12_c16.symm
  have n_c13_c16 : c13 ≠ c16 := fun e => q_c16 (e ▸ h_c13.1.1)
  have n_c16_c13 := n_c13_c16.symm
  have n_c14_c16 : c14 ≠ c16 := fun e => q_c16 (e ▸ h_c14.1.1)
  have n_c16_c14 := n_c14_c16.symm
  have n_c15_c16 : c15 ≠ c16 := fun e => q_c16 (e ▸ h_c15.1.1)
  have n_c16_c15 := n_c15_c16.symm
  have h_a := h_a.gx G31 n_a_c16
  have h_c1 := h_c1.gx G31 n_c1_c16
  have h_c2 := h_c2.gx G31 n_c2_c16
  have h_c3 := h_c3.gx G31 n_c3_c16
  have h_c4 := h_c4.gx G31 n_c4_c16
  have h_c5 := h_c5.gx G31 n_c5_c16
  have h_c6 := h_c6.gx G31 n_c6_c16
  have h_c7 := h_c7.gx G31 n_c7_c16
  have h_c8 := h_c8.gx G31 n_c8_c16
  have h_c9 := h_c9.gx G31 n_c9_c16
  have h_c10 := h_c10.gx G31 n_c10_c16
  have h_c11 := h_c11.gx G31 n_c11_c16
  have h_c12 := h_c12.gx G31 n_c12_c16
  have h_c13 := h_c13.gx G31 n_c13_c16
  have h_c14 := h_c14.gx G31 n_c14_c16
  have h_c15 := h_c15.gx G31 n_c15_c16
  have Gt31 : GX (fun z => z = a) S S31 := GX.tr Gt30 G31 (fun z hz e => absurd hz (e ▸ f_c16))
  have h_c16 : AR S31 c16 60 (fun _ => 0) := by rw [eS31]; exact ar_new
  have Nn := Nn.c q_c16 G31 h_c16.1.1
  refine V_prf (pc := 127) 9 27 315 dX9_init_127 (FL_X9_55 rfl) rfl rfl (fun _ => rfl) (fun _ => rfl) rfl rfl rfl h_a.1 ?_
  obtain ⟨S32, eS32⟩ : ∃ Z, Z = sR S31 315 a (some c16) := ⟨_, rfl⟩
  rw [← eS32]
  have G32 : GX (fun z => z = a) S31 S32 := by rw [eS32]; exact gx_R
  have h_c1 := h_c1.gx G32 n_c1_a
  have h_c2 := h_c2.gx G32 n_c2_a
  have h_c3 := h_c3.gx G32 n_c3_a
  have h_c4 := h_c4.gx G32 n_c4_a
  have h_c5 := h_c5.gx G32 n_c5_a
  have h_c6 := h_c6.gx G32 n_c6_a
  have h_c7 := h_c7.gx G32 n_c7_a
  have h_c8 := h_c8.gx G32 n_c8_a
  have h_c9 := h_c9.gx G32 n_c9_a
  have h_c10 := h_c10.gx G32 n_c10_a
  have h_c11 := h_c11.gx G32 n_c11_a
  have h_c12 := h_c12.gx G32 n_c12_a
  have h_c13 := h_c13.gx G32 n_c13_a
  have h_c14 := h_c14.gx G32 n_c14_a
  have h_c15 := h_c15.gx G32 n_c15_a
  have h_c16 := h_c16.gx G32 n_c16_a
  have Gt32 : GX (fun z => z = a) S S32 := GX.tr Gt31 G32 (fun z hz e => e)
  have Nn := Nn.gx G32
  have h_a : OB S32 a 9 (va_up (va_up (va_up (va_up (va_up (va_up (va_up (va_up (va_up (va_up (va_up (va_up (va_up (va_up (va_up (va_up (R) 288 (some c1)) 289 (some c2)) 290 (some c3)) 292 (some c4)) 293 (some c5)) 294 (some c6)) 295 (some c7)) 296 (some c8)) 297 (some c9)) 298 (some c10)) 299 (some c11)) 300 (some c12)) 312 (some c13)) 313 (some c14)) 314 (some c15)) 315 (some c16)) (fun _ => 0) := by rw [eS32]; exact h_a.wR
  refine V_aln (pc := 130) dX9_init_130 rfl rfl ?_
  refine V_bipush (pc := 131) (v := 60) dX9_init_131 (by decide) ?_
  refine V_na (pc := 133) 60 (ja_int dX9_init_133) (by decide) (by decide) (Nat.le_of_ble_eq_true rfl) (Nat.le_of_ble_eq_true rfl) (fun c17 q_c17 => ?_)
  obtain ⟨S33, eS33⟩ : ∃ Z, Z = nX S32 c17 60 := ⟨_, rfl⟩
  rw [← eS33]
  have G33 : GX (fun z => z = c17) S32 S33 := by rw [eS33]; exact gx_X q_c17
  have f_c17 : c17 ∉ gL S := GX.out Gt32 q_c17
  have n_a_c17 : a ≠ c17 := fun e => q_c17 (e ▸ h_a.1.1)
  have n_c17_a := n_a_c17.symm
  have n_c1_c17 : c1 ≠ c17 := fun e => q_c17 (e ▸ h_c1.1.1)
  have n_c17_c1 := n_c1_c17.symm
  have n_c2_c17 : c2 ≠ c17 := fun e => q_c17 (e ▸ h_c2.1.1)
  have n_c17_c2 := n_c2_c17.symm
  have n_c3_c17 : c3 ≠ c17 := fun e => q_c17 (e ▸ h_c3.1.1)
  have n_c17_c3 := n_c3_c17.symm
  have n_c4_c17 : c4 ≠ c17 := fun e => q_c17 (e ▸ h_c4.1.1)
  have n_c17_c4 := n_c4_c17.symm
  have n_c5_c17 : c5 ≠ c17 := fun e => q_c17 (e ▸ h_c5.1.1)
  have n_c17_c5 := n_c5_c17.symm
  have n_c6_c17 : c6 ≠ c17 := fun e => q_c17 (e ▸ h_c6.1.1)
  have n_c17_c6 := n_c6_c17.symm
  have n_c7_c17 : c7 ≠ c17 := fun e => q_c17 (e ▸ h_c7.1.1)
  have n_c17_c7 := n_c7_c17.symm
  have n_c8_c17 : c8 ≠ c17 := fun e => q_c17 (e ▸ h_c8.1.1)
  have n_c17_c8 := n_c8_c17.symm
  have n_c9_c17 : c9 ≠ c17 := fun e => q_c17 (e ▸ h_c9.1.1)
  have n_c17_c9 := n_c9_c17.symm
  have n_c10_c17 : c10 ≠ c17 := fun e => q_c17 (e ▸ h_c10.1.1)
  have n_c17_c10 := n_c10_c17.symm
  have n_c11_c17 : c11 ≠ c17 := fun e => q_c17 (e ▸ h_c11.1.1)
  have n_c17_c11 := n_c11_c17.symm
  have n_c12_c17 : c12 ≠ c17 := fun e => q_c17 (e ▸ h_c12.1.1)
  have n_c17_c12 := n_c12_c17.symm
  have n_c13_c17 : c13 ≠ c17 := fun e => q_c17 (e ▸ h_c13.1.1)
  have n_c17_c13 := n_c13_c17.symm
  have n_c14_c17 : c14 ≠ c17 := fun e => q_c17 (e ▸ h_c14.1.1)
  have n_c17_c14 := n_c14_c17.symm
  have n_c15_c17 : c15 ≠ c17 := fun e => q_c17 (e ▸ h_c15.1.1)
  have n_c17_c15 := n_c15_c17.symm
  have n_c16_c17 : c16 ≠ c17 := fun e => q_c17 (e ▸ h_c16.1.1)
  have n_c17_c16 := n_c16_c17.symm
  have h_a := h_a.gx G33 n_a_c17
  have h_c1 := h_c1.gx G33 n_c1_c17
  have h_c2 := h_c2.gx G33 n_c2_c17
  have h_c3 := h_c3.gx G33 n_c3_c17
  have h_c4 := h_c4.gx G33 n_c4_c17
  have h_c5 := h_c5.gx G33 n_c5_c17
  have h_c6 := h_c6.gx G33 n_c6_c17
  have h_c7 := h_c7.gx G33 n_c7_c17
  have h_c8 := h_c8.gx G33 n_c8_c17
  have h_c9 := h_c9.gx G33 n_c9_c17
  have h_c10 := h_c10.gx G33 n_c10_c17
  have h_c11 := h_c11.gx G33 n_c11_c17
  have h_c12 := h_c12.gx G33 n_c12_c17
  have h_c13 := h_c13.gx G33 n_c13_c17
  have h_c14 := h_c14.gx G33 n_c14_c17
  have h_c15 := h_c15.gx G33 n_c15_c17
  have h_c16 := h_c16.gx G33 n_c16_c17
  have Gt33 : GX (fun z => z = a) S S33 := GX.tr Gt32 G33 (fun z hz e => absurd hz (e ▸ f_c17))
  have h_c17 : AR S33 c17 60 (fun _ => 0) := by rw [eS33]; exact ar_new
  have Nn := Nn.c q_c17 G33 h_c17.1.1
  refine V_prf (pc := 135) 9 29 317 dX9_init_135 (FL_X9_58 rfl) rfl rfl (fun _ => rfl) (fun _ => rfl) rfl rfl rfl h_a.1 ?_
  obtain ⟨S34, eS34⟩ : ∃ Z, Z = sR S33 317 a (some c17) := ⟨_, rfl⟩
  rw [← eS34]
  have G34 : GX (fun z => z = a) S33 S34 := by rw [eS34]; exact gx_R
  have h_c1 := h_c1.gx G34 n_c1_a
  have h_c2 := h_c2.gx G34 n_c2_a
  have h_c3 := h_c3.gx G34 n_c3_a
  have h_c4 := h_c4.gx G34 n_c4_a
  have h_c5 := h_c5.gx G34 n_c5_a
  have h_c6 := h_c6.gx G34 n_c6_a
  have h_c7 := h_c7.gx G34 n_c7_a
  have h_c8 := h_c8.gx G34 n_c8_a
  have h_c9 := h_c9.gx G34 n_c9_a
  have h_c10 := h_c10.gx G34 n_c10_a
  have h_c11 := h_c11.gx G34 n_c11_a
  have h_c12 := h_c12.gx G34 n_c12_a
  have h_c13 := h_c13.gx G34 n_c13_a
  have h_c14 := h_c14.gx G34 n_c14_a
  have h_c15 := h_c15.gx G34 n_c15_a
  have h_c16 := h_c16.gx G34 n_c16_a
  have h_c17 := h_c17.gx G34 n_c17_a
  have Gt34 : GX (fun z => z = a) S S34 := GX.tr Gt33 G34 (fun z hz e => e)
  have Nn := Nn.gx G34
  have h_a : OB S34 a 9 (va_up (va_up (va_up (va_up (va_up (va_up (va_up (va_up (va_up (va_up (va_up (va_up (va_up (va_up (va_up (va_up (va_up (R) 288 (some c1)) 289 (some c2)) 290 (some c3)) 292 (some c4)) 293 (some c5)) 294 (some c6)) 295 (some c7)) 296 (some c8)) 297 (some c9)) 298 (some c10)) 299 (some c11)) 300 (some c12)) 312 (some c13)) 313 (some c14)) 314 (some c15)) 315 (some c16)) 317 (some c17)) (fun _ => 0) := by rw [eS34]; exact h_a.wR
  refine V_aln (pc := 138) dX9_init_138 rfl rfl ?_
  refine V_gr (pc := 139) 9 0 288 dX9_init_139 (FL_X9_7 rfl) rfl rfl h_a.1 ((h_a.2.1 288).trans rfl) ?_
  refine V_iconst (pc := 142) (v := 4) dX9_init_142 (by decide) ?_
  refine V_iconst (pc := 143) (v := 1) dX9_init_143 (by decide) ?_
  refine V_ias (pc := 144) (N := 3154) 4 dX9_init_144 h_c1.1 h_c1.2.1 (by decide) (by first | rfl | decide) (by decide) ?_
  obtain ⟨S35, eS35⟩ : ∃ Z, Z = sX S34 c1 (upd (gX S34 c1) 4 1) := ⟨_, rfl⟩
  rw [← eS35]
  have G35 : GX (fun z => z = c1) S34 S35 := by rw [eS35]; exact gx_sX
  have h_a := h_a.gx G35 n_a_c1
  have h_c2 := h_c2.gx G35 n_c2_c1
  have h_c3 := h_c3.gx G35 n_c3_c1
  have h_c4 := h_c4.gx G35 n_c4_c1
  have h_c5 := h_c5.gx G35 n_c5_c1
  have h_c6 := h_c6.gx G35 n_c6_c1
  have h_c7 := h_c7.gx G35 n_c7_c1
  have h_c8 := h_c8.gx G35 n_c8_c1
  have h_c9 := h_c9.gx G35 n_c9_c1
  have h_c10 := h_c10.gx G35 n_c10_c1
  have h_c11 := h_c11.gx G35 n_c11_c1
  have h_c12 := h_c12.gx G35 n_c12_c1
  have h_c13 := h_c13.gx G35 n_c13_c1
  have h_c14 := h_c14.gx G35 n_c14_c1
  have h_c15 := h_c15.gx G35 n_c15_c1
  have h_c16 := h_c16.gx G35 n_c16_c1
  have h_c17 := h_c17.gx G35 n_c17_c1
  have Gt35 : GX (fun z => z = a) S S35 := GX.tr Gt34 G35 (fun z hz e => absurd hz (e ▸ f_c1))
  have Nn := Nn.gx G35
  have h_c1 : AR S35 c1 3154 (upd (fun _ => 0) 4 1) := by rw [eS35]; exact h_c1.w
  refine V_iconst (pc := 145) (v := 0) dX9_init_145 (by decide) ?_
  refine V_isn (pc := 146) (fun y => [(0, .ref a), (1, .int y)]) dX9_init_146 rfl (by decide) (fun _ => rfl) (fun y146 ey146 => ?_)
  obtain rfl : y146 = nI 0 := ey146
  refine V_iln (pc := 147) dX9_init_147 rfl rfl ?_
  refine V_bipush (pc := 148) (v := 8) dX9_init_148 (by decide) ?_
  refine V_cge (pc := 150) (t := 170) dX9_init_150 (by decide) (fun h => absurd h (by decide)) (fun _ => ?_)
  refine V_aln (pc := 153) dX9_init_153 rfl rfl ?_
  refine V_gr (pc := 154) 9 0 288 dX9_init_154 (FL_X9_7 rfl) rfl rfl h_a.1 ((h_a.2.1 288).trans rfl) ?_
  refine V_bipush (pc := 157) (v := 6) dX9_init_157 (by decide) ?_
  refine V_iln (pc := 159) dX9_init_159 rfl rfl ?_
  refine V_iadd (pc := 160) dX9_init_160 ?_
  refine V_bipush (pc := 161) (v := 100) dX9_init_161 (by decide) ?_
  refine V_ias (pc := 163) (N := 3154) 6 dX9_init_163 h_c1.1 h_c1.2.1 (by decide) (by first | rfl | decide) (by decide) ?_
  obtain ⟨S36, eS36⟩ : ∃ Z, Z = sX S35 c1 (upd (gX S35 c1) 6 100) := ⟨_, rfl⟩
  rw [← eS36]
  have G36 : GX (fun z => z = c1) S35 S36 := by rw [eS36]; exact gx_sX
  have h_a := h_a.gx G36 n_a_c1
  have h_c2 := h_c2.gx G36 n_c2_c1
  have h_c3 := h_c3.gx G36 n_c3_c1
  have h_c4 := h_c4.gx G36 n_c4_c1
  have h_c5 := h_c5.gx G36 n_c5_c1
  have h_c6 := h_c6.gx G36 n_c6_c1
  have h_c7 := h_c7.gx G36 n_c7_c1
  have h_c8 := h_c8.gx G36 n_c8_c1
  have h_c9 := h_c9.gx G36 n_c9_c1
  have h_c10 := h_c10.gx G36 n_c10_c1
  have h_c11 := h_c11.gx G36 n_c11_c1
  have h_c12 := h_c12.gx G36 n_c12_c1
  have h_c13 := h_c13.gx G36 n_c13_c1
  have h_c14 := h_c14.gx G36 n_c14_c1
  have h_c15 := h_c15.gx G36 n_c15_c1
  have h_c16 := h_c16.gx G36 n_c16_c1
  have h_c17 := h_c17.gx G36 n_c17_c1
  have Gt36 : GX (fun z => z = a) S S36 := GX.tr Gt35 G36 (fun z hz e => absurd hz (e ▸ f_c1))
  have Nn := Nn.gx G36
  have h_c1 : AR S36 c1 3154 (upd (upd (fun _ => 0) 4 1) 6 100) := by rw [eS36]; exact h_c1.w
  refine V_inc (pc := 164) (fun y => [(0, .ref a), (1, .int y)]) (w := 1) dX9_init_164 (by decide) (by decide) rfl (fun _ => rfl) (fun y164 ey164 => ?_)
  obtain rfl : y164 = nI 1 := by rw [ey164]; exact nI_1 _
  refine V_goto (pc := 167) (t := 147) dX9_init_167 (by decide) ?_
  refine V_iln (pc := 147) dX9_init_147 rfl rfl ?_
  refine V_bipush (pc := 148) (v := 8) dX9_init_148 (by decide) ?_
  refine V_cge (pc := 150) (t := 170) dX9_init_150 (by decide) (fun h => absurd h (by decide)) (fun _ => ?_)
  refine V_aln (pc := 153) dX9_init_153 rfl rfl ?_
  refine V_gr (pc := 154) 9 0 288 dX9_init_154 (FL_X9_7 rfl) rfl rfl h_a.1 ((h_a.2.1 288).trans rfl) ?_
  refine V_bipush (pc := 157) (v := 6) dX9_init_157 (by decide) ?_
  refine V_iln (pc := 159) dX9_init_159 rfl rfl ?_
  refine V_iadd (pc := 160) dX9_init_160 ?_
  refine V_bipush (pc := 161) (v := 100) dX9_init_161 (by decide) ?_
  refine V_ias (pc := 163) (N := 3154) 7 dX9_init_163 h_c1.1 h_c1.2.1 (by decide) (by first | rfl | decide) (by decide) ?_
  obtain ⟨S37, eS37⟩ : ∃ Z, Z = sX S36 c1 (upd (gX S36 c1) 7 100) := ⟨_, rfl⟩
  rw [← eS37]
  have G37 : GX (fun z => z = c1) S36 S37 := by rw [eS37]; exact gx_sX
  have h_a := h_a.gx G37 n_a_c1
  have h_c2 := h_c2.gx G37 n_c2_c1
  have h_c3 := h_c3.gx G37 n_c3_c1
  have h_c4 := h_c4.gx G37 n_c4_c1
  have h_c5 := h_c5.gx G37 n_c5_c1
  have h_c6 := h_c6.gx G37 n_c6_c1
  have h_c7 := h_c7.gx G37 n_c7_c1
  have h_c8 := h_c8.gx G37 n_c8_c1
  have h_c9 := h_c9.gx G37 n_c9_c1
  have h_c10 := h_c10.gx G37 n_c10_c1
  have h_c11 := h_c11.gx G37 n_c11_c1
  have h_c12 := h_c12.gx G37 n_c12_c1
  have h_c13 := h_c13.gx G37 n_c13_c1
  have h_c14 := h_c14.gx G37 n_c14_c1
  have h_c15 := h_c15.gx G37 n_c15_c1
  have h_c16 := h_c16.gx G37 n_c16_c1
  have h_c17 := h_c17.gx G37 n_c17_c1
  have Gt37 : GX (fun z => z = a) S S37 := GX.tr Gt36 G37 (fun z hz e => absurd hz (e ▸ f_c1))
  have Nn := Nn.gx G37
  have h_c1 : AR S37 c1 3154 (upd (upd (upd (fun _ => 0) 4 1) 6 100) 7 100) := by rw [eS37]; exact h_c1.w
  refine V_inc (pc := 164) (fun y => [(0, .ref a), (1, .int y)]) (w := 1) dX9_init_164 (by decide) (by decide) rfl (fun _ => rfl) (fun y164 ey164 => ?_)
  obtain rfl : y164 = nI 2 := by rw [ey164]; exact nI_1 _
  refine V_goto (pc := 167) (t := 147) dX9_init_167 (by decide) ?_
  refine V_iln (pc := 147) dX9_init_147 rfl rfl ?_
  refine V_bipush (pc := 148) (v := 8) dX9_init_148 (by decide) ?_
  refine V_cge (pc := 150) (t := 170) dX9_init_150 (by decide) (fun h => absurd h (by decide)) (fun _ => ?_)
  refine V_aln (pc := 153) dX9_init_153 rfl rfl ?_
  refine V_gr (pc := 154) 9 0 288 dX9_init_154 (FL_X9_7 rfl) rfl rfl h_a.1 ((h_a.2.1 288).trans rfl) ?_
  refine V_bipush (pc := 157) (v := 6) dX9_init_157 (by decide) ?_
  refine V_iln (pc := 159) dX9_init_159 rfl rfl ?_
  refine V_iadd (pc := 160) dX9_init_160 ?_
  refine V_bipush (pc := 161) (v := 100) dX9_init_161 (by decide) ?_
  refine V_ias (pc := 163) (N := 3154) 8 dX9_init_163 h_c1.1 h_c1.2.1 (by decide) (by first | rfl | decide) (by decide) ?_
  obtain ⟨S38, eS38⟩ : ∃ Z, Z = sX S37 c1 (upd (gX S37 c1) 8 100) := ⟨_, rfl⟩
  rw [← eS38]
  have G38 : GX (fun z => z = c1) S37 S38 := by rw [eS38]; exact gx_sX
  have h_a := h_a.gx G38 n_a_c1
  have h_c2 := h_c2.gx G38 n_c2_c1
  have h_c3 := h_c3.gx G38 n_c3_c1
  have h_c4 := h_c4.gx G38 n_c4_c1
  have h_c5 := h_c5.gx G38 n_c5_c1
  have h_c6 := h_c6.gx G38 n_c6_c1
  have h_c7 := h_c7.gx G38 n_c7_c1
  have h_c8 := h_c8.gx G38 n_c8_c1
  have h_c9 := h_c9.gx G38 n_c9_c1
  have h_c10 := h_c10.gx G38 n_c10_c1
  have h_c11 := h_c11.gx G38 n_c11_c1
  have h_c12 := h_c12.gx G38 n_c12_c1
  have h_c13 := h_c13.gx G38 n_c13_c1
  have h_c14 := h_c14.gx G38 n_c14_c1
  have h_c15 := h_c15.gx G38 n_c15_c1
  have h_c16 := h_c16.gx G38 n_c16_c1
  have h_c17 := h_c17.gx G38 n_c17_c1
  have Gt38 : GX (fun z => z = a) S S38 := GX.tr Gt37 G38 (fun z hz e => absurd hz (e ▸ f_c1))
  have Nn := Nn.gx G38
  have h_c1 : AR S38 c1 3154 (upd (upd (upd (upd (fun _ => 0) 4 1) 6 100) 7 100) 8 100) := by rw [eS38]; exact h_c1.w
  refine V_inc (pc := 164) (fun y => [(0, .ref a), (1, .int y)]) (w := 1) dX9_init_164 (by decide) (by decide) rfl (fun _ => rfl) (fun y164 ey164 => ?_)
  obtain rfl : y164 = nI 3 := by rw [ey164]; exact nI_1 _
  refine V_goto (pc := 167) (t := 147) dX9_init_167 (by decide) ?_
  refine V_iln (pc := 147) dX9_init_147 rfl rfl ?_
  refine V_bipush (pc := 148) (v := 8) dX9_init_148 (by decide) ?_
  refine V_cge (pc := 150) (t := 170) dX9_init_150 (by decide) (fun h => absurd h (by decide)) (fun _ => ?_)
  refine V_aln (pc := 153) dX9_init_153 rfl rfl ?_
  refine V_gr (pc := 154) 9 0 288 dX9_init_154 (FL_X9_7 rfl) rfl rfl h_a.1 ((h_a.2.1 288).trans rfl) ?_
  refine V_bipush (pc := 157) (v := 6) dX9_init_157 (by decide) ?_
  refine V_iln (pc := 159) dX9_init_159 rfl rfl ?_
  refine V_iadd (pc := 160) dX9_init_160 ?_
  refine V_bipush (pc := 161) (v := 100) dX9_init_161 (by decide) ?_
  refine V_ias (pc := 163) (N := 3154) 9 dX9_init_163 h_c1.1 h_c1.2.1 (by decide) (by first | rfl | decide) (by decide) ?_
  obtain ⟨S39, eS39⟩ : ∃ Z, Z = sX S38 c1 (upd (gX S38 c1) 9 100) := ⟨_, rfl⟩
  rw [← eS39]
  have G39 : GX (fun z => z = c1) S38 S39 := by rw [eS39]; exact gx_sX
  have h_a := h_a.gx G39 n_a_c1
  have h_c2 := h_c2.gx G39 n_c2_c1
  have h_c3 := h_c3.gx G39 n_c3_c1
  have h_c4 := h_c4.gx G39 n_c4_c1
  have h_c5 := h_c5.gx G39 n_c5_c1
  have h_c6 := h_c6.gx G39 n_c6_c1
  have h_c7 := h_c7.gx G39 n_c7_c1
  have h_c8 := h_c8.gx G39 n_c8_c1
  have h_c9 := h_c9.gx G39 n_c9_c1
  have h_c10 := h_c10.gx G39 n_c10_c1
  have h_c11 := h_c11.gx G39 n_c11_c1
  have h_c12 := h_c12.gx G39 n_c12_c1
  have h_c13 := h_c13.gx G39 n_c13_c1
  have h_c14 := h_c14.gx G39 n_c14_c1
  have h_c15 := h_c15.gx G39 n_c15_c1
  have h_c16 := h_c16.gx G39 n_c16_c1
  have h_c17 := h_c17.gx G39 n_c17_c1
  have Gt39 : GX (fun z => z = a) S S39 := GX.tr Gt38 G39 (fun z hz e => absurd hz (e ▸ f_c1))
  have Nn := Nn.gx G39
  have h_c1 : AR S39 c1 3154 (upd (upd (upd (upd (upd (fun _ => 0) 4 1) 6 100) 7 100) 8 100) 9 100) := by rw [eS39]; exact h_c1.w
  refine V_inc (pc := 164) (fun y => [(0, .ref a), (1, .int y)]) (w := 1) dX9_init_164 (by decide) (by decide) rfl (fun _ => rfl) (fun y164 ey164 => ?_)
  obtain rfl : y164 = nI 4 := by rw [ey164]; exact nI_1 _
  refine V_goto (pc := 167) (t := 147) dX9_init_167 (by decide) ?_
  refine V_iln (pc := 147) dX9_init_147 rfl rfl ?_
  refine V_bipush (pc := 148) (v := 8) dX9_init_148 (by decide) ?_
  refine V_cge (pc := 150) (t := 170) dX9_init_150 (by decide) (fun h => absurd h (by decide)) (fun _ => ?_)
  refine V_aln (pc := 153) dX9_init_153 rfl rfl ?_
  refine V_gr (pc := 154) 9 0 288 dX9_init_154 (FL_X9_7 rfl) rfl rfl h_a.1 ((h_a.2.1 288).trans rfl) ?_
  refine V_bipush (pc := 157) (v := 6) dX9_init_157 (by decide) ?_
  refine V_iln (pc := 159) dX9_init_159 rfl rfl ?_
  refine V_iadd (pc := 160) dX9_init_160 ?_
  refine V_bipush (pc := 161) (v := 100) dX9_init_161 (by decide) ?_
  refine V_ias (pc := 163) (N := 3154) 10 dX9_init_163 h_c1.1 h_c1.2.1 (by decide) (by first | rfl | decide) (by decide) ?_
  obtain ⟨S40, eS40⟩ : ∃ Z, Z = sX S39 c1 (upd (gX S39 c1) 10 100) := ⟨_, rfl⟩
  rw [← eS40]
  have G40 : GX (fun z => z = c1) S39 S40 := by rw [eS40]; exact gx_sX
  have h_a := h_a.gx G40 n_a_c1
  have h_c2 := h_c2.gx G40 n_c2_c1
  have h_c3 := h_c3.gx G40 n_c3_c1
  have h_c4 := h_c4.gx G40 n_c4_c1
  have h_c5 := h_c5.gx G40 n_c5_c1
  have h_c6 := h_c6.gx G40 n_c6_c1
  have h_c7 := h_c7.gx G40 n_c7_c1
  have h_c8 := h_c8.gx G40 n_c8_c1
  have h_c9 := h_c9.gx G40 n_c9_c1
  have h_c10 := h_c10.gx G40 n_c10_c1
  have h_c11 := h_c11.gx G40 n_c11_c1
  have h_c12 := h_c12.gx G40 n_c12_c1
  have h_c13 := h_c13.gx G40 n_c13_c1
  have h_c14 := h_c14.gx G40 n_c14_c1
  have h_c15 := h_c15.gx G40 n_c15_c1
  have h_c16 := h_c16.gx G40 n_c16_c1
  have h_c17 := h_c17.gx G40 n_c17_c1
  have Gt40 : GX (fun z => z = a) S S40 := GX.tr Gt39 G40 (fun z hz e => absurd hz (e ▸ f_c1))
  have Nn := Nn.gx G40
  have h_c1 : AR S40 c1 3154 (upd (upd (upd (upd (upd (upd (fun _ => 0) 4 1) 6 100) 7 100) 8 100) 9 100) 10 100) := by rw [eS40]; exact h_c1.w
  refine V_inc (pc := 164) (fun y => [(0, .ref a), (1, .int y)]) (w := 1) dX9_init_164 (by decide) (by decide) rfl (fun _ => rfl) (fun y164 ey164 => ?_)
  obtain rfl : y164 = nI 5 := by rw [ey164]; exact nI_1 _
  refine V_goto (pc := 167) (t := 147) dX9_init_167 (by decide) ?_
  refine V_iln (pc := 147) dX9_init_147 rfl rfl ?_
  refine V_bipush (pc := 148) (v := 8) dX9_init_148 (by decide) ?_
  refine V_cge (pc := 150) (t := 170) dX9_init_150 (by decide) (fun h => absurd h (by decide)) (fun _ => ?_)
  refine V_aln (pc := 153) dX9_init_153 rfl rfl ?_
  refine V_gr (pc := 154) 9 0 288 dX9_init_154 (FL_X9_7 rfl) rfl rfl h_a.1 ((h_a.2.1 288).trans rfl) ?_
  refine V_bipush (pc := 157) (v := 6) dX9_init_157 (by decide) ?_
  refine V_iln (pc := 159) dX9_init_159 rfl rfl ?_
  refine V_iadd (pc := 160) dX9_init_160 ?_
  refine V_bipush (pc := 161) (v := 100) dX9_init_161 (by decide) ?_
  refine V_ias (pc := 163) (N := 3154) 11 dX9_init_163 h_c1.1 h_c1.2.1 (by decide) (by first | rfl | decide) (by decide) ?_
  obtain ⟨S41, eS41⟩ : ∃ Z, Z = sX S40 c1 (upd (gX S40 c1) 11 100) := ⟨_, rfl⟩
  rw [← eS41]
  have G41 : GX (fun z => z = c1) S40 S41 := by rw [eS41]; exact gx_sX
  have h_a := h_a.gx G41 n_a_c1
  have h_c2 := h_c2.gx G41 n_c2_c1
  have h_c3 := h_c3.gx G41 n_c3_c1
  have h_c4 := h_c4.gx G41 n_c4_c1
  have h_c5 := h_c5.gx G41 n_c5_c1
  have h_c6 := h_c6.gx G41 n_c6_c1
  have h_c7 := h_c7.gx G41 n_c7_c1
  have h_c8 := h_c8.gx G41 n_c8_c1
  have h_c9 := h_c9.gx G41 n_c9_c1
  have h_c10 := h_c10.gx G41 n_c10_c1
  have h_c11 := h_c11.gx G41 n_c11_c1
  have h_c12 := h_c12.gx G41 n_c12_c1
  have h_c13 := h_c13.gx G41 n_c13_c1
  have h_c14 := h_c14.gx G41 n_c14_c1
  have h_c15 := h_c15.gx G41 n_c15_c1
  have h_c16 := h_c16.gx G41 n_c16_c1
  have h_c17 := h_c17.gx G41 n_c17_c1
  have Gt41 : GX (fun z => z = a) S S41 := GX.tr Gt40 G41 (fun z hz e => absurd hz (e ▸ f_c1))
  have Nn := Nn.gx G41
  have h_c1 : AR S41 c1 3154 (upd (upd (upd (upd (upd (upd (upd (fun _ => 0) 4 1) 6 100) 7 100) 8 100) 9 100) 10 100) 11 100) := by rw [eS41]; exact h_c1.w
  refine V_inc (pc := 164) (fun y => [(0, .ref a), (1, .int y)]) (w := 1) dX9_init_164 (by decide) (by decide) rfl (fun _ => rfl) (fun y164 ey164 => ?_)
  obtain rfl : y164 = nI 6 := by rw [ey164]; exact nI_1 _
  refine V_goto (pc := 167) (t := 147) dX9_init_167 (by decide) ?_
  refine V_iln (pc := 147) dX9_init_147 rfl rfl ?_
  refine V_bipush (pc := 148) (v := 8) dX9_init_148 (by decide) ?_
  refine V_cge (pc := 150) (t := 170) dX9_init_150 (by decide) (fun h => absurd h (by decide)) (fun _ => ?_)
  refine V_aln (pc := 153) dX9_init_153 rfl rfl ?_
  refine V_gr (pc := 154) 9 0 288 dX9_init_154 (FL_X9_7 rfl) rfl rfl h_a.1 ((h_a.2.1 288).trans rfl) ?_
  refine V_bipush (pc := 157) (v := 6) dX9_init_157 (by decide) ?_
  refine V_iln (pc := 159) dX9_init_159 rfl rfl ?_
  refine V_iadd (pc := 160) dX9_init_160 ?_
  refine V_bipush (pc := 161) (v := 100) dX9_init_161 (by decide) ?_
  refine V_ias (pc := 163) (N := 3154) 12 dX9_init_163 h_c1.1 h_c1.2.1 (by decide) (by first | rfl | decide) (by decide) ?_
  obtain ⟨S42, eS42⟩ : ∃ Z, Z = sX S41 c1 (upd (gX S41 c1) 12 100) := ⟨_, rfl⟩
  rw [← eS42]
  have G42 : GX (fun z => z = c1) S41 S42 := by rw [eS42]; exact gx_sX
  have h_a := h_a.gx G42 n_a_c1
  have h_c2 := h_c2.gx G42 n_c2_c1
  have h_c3 := h_c3.gx G42 n_c3_c1
  have h_c4 := h_c4.gx G42 n_c4_c1
  have h_c5 := h_c5.gx G42 n_c5_c1
  have h_c6 := h_c6.gx G42 n_c6_c1
  have h_c7 := h_c7.gx G42 n_c7_c1
  have h_c8 := h_c8.gx G42 n_c8_c1
  have h_c9 := h_c9.gx G42 n_c9_c1
  have h_c10 := h_c10.gx G42 n_c10_c1
  have h_c11 := h_c11.gx G42 n_c11_c1
  have h_c12 := h_c12.gx G42 n_c12_c1
  have h_c13 := h_c13.gx G42 n_c13_c1
  have h_c14 := h_c14.gx G42 n_c14_c1
  have h_c15 := h_c15.gx G42 n_c15_c1
  have h_c16 := h_c16.gx G42 n_c16_c1
  have h_c17 := h_c17.gx G42 n_c17_c1
  have Gt42 : GX (fun z => z = a) S S42 := GX.tr Gt41 G42 (fun z hz e => absurd hz (e ▸ f_c1))
  have Nn := Nn.gx G42
  have h_c1 : AR S42 c1 3154 (upd (upd (upd (upd (upd (upd (upd (upd (fun _ => 0) 4 1) 6 100) 7 100) 8 100) 9 100) 10 100) 11 100) 12 100) := by rw [eS42]; exact h_c1.w
  refine V_inc (pc := 164) (fun y => [(0, .ref a), (1, .int y)]) (w := 1) dX9_init_164 (by decide) (by decide) rfl (fun _ => rfl) (fun y164 ey164 => ?_)
  obtain rfl : y164 = nI 7 := by rw [ey164]; exact nI_1 _
  refine V_goto (pc := 167) (t := 147) dX9_init_167 (by decide) ?_
  refine V_iln (pc := 147) dX9_init_147 rfl rfl ?_
  refine V_bipush (pc := 148) (v := 8) dX9_init_148 (by decide) ?_
  refine V_cge (pc := 150) (t := 170) dX9_init_150 (by decide) (fun h => absurd h (by decide)) (fun _ => ?_)
  refine V_aln (pc := 153) dX9_init_153 rfl rfl ?_
  refine V_gr (pc := 154) 9 0 288 dX9_init_154 (FL_X9_7 rfl) rfl rfl h_a.1 ((h_a.2.1 288).trans rfl) ?_
  refine V_bipush (pc := 157) (v := 6) dX9_init_157 (by decide) ?_
  refine V_iln (pc := 159) dX9_init_159 rfl rfl ?_
  refine V_iadd (pc := 160) dX9_init_160 ?_
  refine V_bipush (pc := 161) (v := 100) dX9_init_161 (by decide) ?_
  refine V_ias (pc := 163) (N := 3154) 13 dX9_init_163 h_c1.1 h_c1.2.1 (by decide) (by first | rfl | decide) (by decide) ?_
  obtain ⟨S43, eS43⟩ : ∃ Z, Z = sX S42 c1 (upd (gX S42 c1) 13 100) := ⟨_, rfl⟩
  rw [← eS43]
  have G43 : GX (fun z => z = c1) S42 S43 := by rw [eS43]; exact gx_sX
  have h_a := h_a.gx G43 n_a_c1
  have h_c2 := h_c2.gx G43 n_c2_c1
  have h_c3 := h_c3.gx G43 n_c3_c1
  have h_c4 := h_c4.gx G43 n_c4_c1
  have h_c5 := h_c5.gx G43 n_c5_c1
  have h_c6 := h_c6.gx G43 n_c6_c1
  have h_c7 := h_c7.gx G43 n_c7_c1
  have h_c8 := h_c8.gx G43 n_c8_c1
  have h_c9 := h_c9.gx G43 n_c9_c1
  have h_c10 := h_c10.gx G43 n_c10_c1
  have h_c11 := h_c11.gx G43 n_c11_c1
  have h_c12 := h_c12.gx G43 n_c12_c1
  have h_c13 := h_c13.gx G43 n_c13_c1
  have h_c14 := h_c14.gx G43 n_c14_c1
  have h_c15 := h_c15.gx G43 n_c15_c1
  have h_c16 := h_c16.gx G43 n_c16_c1
  have h_c17 := h_c17.gx G43 n_c17_c1
  have Gt43 : GX (fun z => z = a) S S43 := GX.tr Gt42 G43 (fun z hz e => absurd hz (e ▸ f_c1))
  have Nn := Nn.gx G43
  have h_c1 : AR S43 c1 3154 (upd (upd (upd (upd (upd (upd (upd (upd (upd (fun _ => 0) 4 1) 6 100) 7 100) 8 100) 9 100) 10 100) 11 100) 12 100) 13 100) := by rw [eS43]; exact h_c1.w
  refine V_inc (pc := 164) (fun y => [(0, .ref a), (1, .int y)]) (w := 1) dX9_init_164 (by decide) (by decide) rfl (fun _ => rfl) (fun y164 ey164 => ?_)
  obtain rfl : y164 = nI 8 := by rw [ey164]; exact nI_1 _
  refine V_goto (pc := 167) (t := 147) dX9_init_167 (by decide) ?_
  refine V_iln (pc := 147) dX9_init_147 rfl rfl ?_
  refine V_bipush (pc := 148) (v := 8) dX9_init_148 (by decide) ?_
  refine V_cge (pc := 150) (t := 170) dX9_init_150 (by decide) (fun _ => ?_) (fun h => absurd h (by decide))
  refine V_iconst (pc := 170) (v := 0) dX9_init_170 (by decide) ?_
  refine V_isn (pc := 171) (fun y => [(0, .ref a), (1, .int y)]) dX9_init_171 rfl (by decide) (fun _ => rfl) (fun y171 ey171 => ?_)
  obtain rfl : y171 = nI 0 := ey171
  refine V_iln (pc := 172) dX9_init_172 rfl rfl ?_
  refine V_iconst (pc := 173) (v := 4) dX9_init_173 (by decide) ?_
  refine V_cge (pc := 174) (t := 190) dX9_init_174 (by decide) (fun h => absurd h (by decide)) (fun _ => ?_)
  refine V_aln (pc := 177) dX9_init_177 rfl rfl ?_
  refine V_gr (pc := 178) 9 4 292 dX9_init_178 (FL_X9_19 rfl) rfl rfl h_a.1 ((h_a.2.1 292).trans rfl) ?_
  refine V_iln (pc := 181) dX9_init_181 rfl rfl ?_
  refine V_iconst (pc := 182) (v := (-1)) dX9_init_182 (by decide) ?_
  refine V_ias (pc := 183) (N := 4) 0 dX9_init_183 h_c4.1 h_c4.2.1 (by decide) (by first | rfl | decide) (by decide) ?_
  obtain ⟨S44, eS44⟩ : ∃ Z, Z = sX S43 c4 (upd (gX S43 c4) 0 (-1)) := ⟨_, rfl⟩
  rw [← eS44]
  have G44 : GX (fun z => z = c4) S43 S44 := by rw [eS44]; exact gx_sX
  have h_a := h_a.gx G44 n_a_c4
  have h_c1 := h_c1.gx G44 n_c1_c4
  have h_c2 := h_c2.gx G44 n_c2_c4
  have h_c3 := h_c3.gx G44 n_c3_c4
  have h_c5 := h_c5.gx G44 n_c5_c4
  have h_c6 := h_c6.gx G44 n_c6_c4
  have h_c7 := h_c7.gx G44 n_c7_c4
  have h_c8 := h_c8.gx G44 n_c8_c4
  have h_c9 := h_c9.gx G44 n_c9_c4
  have h_c10 := h_c10.gx G44 n_c10_c4
  have h_c11 := h_c11.gx G44 n_c11_c4
  have h_c12 := h_c12.gx G44 n_c12_c4
  have h_c13 := h_c13.gx G44 n_c13_c4
  have h_c14 := h_c14.gx G44 n_c14_c4
  have h_c15 := h_c15.gx G44 n_c15_c4
  have h_c16 := h_c16.gx G44 n_c16_c4
  have h_c17 := h_c17.gx G44 n_c17_c4
  have Gt44 : GX (fun z => z = a) S S44 := GX.tr Gt43 G44 (fun z hz e => absurd hz (e ▸ f_c4))
  have Nn := Nn.gx G44
  have h_c4 : AR S44 c4 4 (upd (fun _ => 0) 0 (-1)) := by rw [eS44]; exact h_c4.w
  refine V_inc (pc := 184) (fun y => [(0, .ref a), (1, .int y)]) (w := 1) dX9_init_184 (by decide) (by decide) rfl (fun _ => rfl) (fun y184 ey184 => ?_)
  obtain rfl : y184 = nI 1 := by rw [ey184]; exact nI_1 _
  refine V_goto (pc := 187) (t := 172) dX9_init_187 (by decide) ?_
  refine V_iln (pc := 172) dX9_init_172 rfl rfl ?_
  refine V_iconst (pc := 173) (v := 4) dX9_init_173 (by decide) ?_
  refine V_cge (pc := 174) (t := 190) dX9_init_174 (by decide) (fun h => absurd h (by decide)) (fun _ => ?_)
  refine V_aln (pc := 177) dX9_init_177 rfl rfl ?_
  refine V_gr (pc := 178) 9 4 292 dX9_init_178 (FL_X9_19 rfl) rfl rfl h_a.1 ((h_a.2.1 292).trans rfl) ?_
  refine V_iln (pc := 181) dX9_init_181 rfl rfl ?_
  refine V_iconst (pc := 182) (v := (-1)) dX9_init_182 (by decide) ?_
  refine V_ias (pc := 183) (N := 4) 1 dX9_init_183 h_c4.1 h_c4.2.1 (by decide) (by first | rfl | decide) (by decide) ?_
  obtain ⟨S45, eS45⟩ : ∃ Z, Z = sX S44 c4 (upd (gX S44 c4) 1 (-1)) := ⟨_, rfl⟩
  rw [← eS45]
  have G45 : GX (fun z => z = c4) S44 S45 := by rw [eS45]; exact gx_sX
  have h_a := h_a.gx G45 n_a_c4
  have h_c1 := h_c1.gx G45 n_c1_c4
  have h_c2 := h_c2.gx G45 n_c2_c4
  have h_c3 := h_c3.gx G45 n_c3_c4
  have h_c5 := h_c5.gx G45 n_c5_c4
  have h_c6 := h_c6.gx G45 n_c6_c4
  have h_c7 := h_c7.gx G45 n_c7_c4
  have h_c8 := h_c8.gx G45 n_c8_c4
  have h_c9 := h_c9.gx G45 n_c9_c4
  have h_c10 := h_c10.gx G45 n_c10_c4
  have h_c11 := h_c11.gx G45 n_c11_c4
  have h_c12 := h_c12.gx G45 n_c12_c4
  have h_c13 := h_c13.gx G45 n_c13_c4
  have h_c14 := h_c14.gx G45 n_c14_c4
  have h_c15 := h_c15.gx G45 n_c15_c4
  have h_c16 := h_c16.gx G45 n_c16_c4
  have h_c17 := h_c17.gx G45 n_c17_c4
  have Gt45 : GX (fun z => z = a) S S45 := GX.tr Gt44 G45 (fun z hz e => absurd hz (e ▸ f_c4))
  have Nn := Nn.gx G45
  have h_c4 : AR S45 c4 4 (upd (upd (fun _ => 0) 0 (-1)) 1 (-1)) := by rw [eS45]; exact h_c4.w
  refine V_inc (pc := 184) (fun y => [(0, .ref a), (1, .int y)]) (w := 1) dX9_init_184 (by decide) (by decide) rfl (fun _ => rfl) (fun y184 ey184 => ?_)
  obtain rfl : y184 = nI 2 := by rw [ey184]; exact nI_1 _
  refine V_goto (pc := 187) (t := 172) dX9_init_187 (by decide) ?_
  refine V_iln (pc := 172) dX9_init_172 rfl rfl ?_
  refine V_iconst (pc := 173) (v := 4) dX9_init_173 (by decide) ?_
  refine V_cge (pc := 174) (t := 190) dX9_init_174 (by decide) (fun h => absurd h (by decide)) (fun _ => ?_)
  refine V_aln (pc := 177) dX9_init_177 rfl rfl ?_
  refine V_gr (pc := 178) 9 4 292 dX9_init_178 (FL_X9_19 rfl) rfl rfl h_a.1 ((h_a.2.1 292).trans rfl) ?_
  refine V_iln (pc := 181) dX9_init_181 rfl rfl ?_
  refine V_iconst (pc := 182) (v := (-1)) dX9_init_182 (by decide) ?_
  refine V_ias (pc := 183) (N := 4) 2 dX9_init_183 h_c4.1 h_c4.2.1 (by decide) (by first | rfl | decide) (by decide) ?_
  obtain ⟨S46, eS46⟩ : ∃ Z, Z = sX S45 c4 (upd (gX S45 c4) 2 (-1)) := ⟨_, rfl⟩
  rw [← eS46]
  have G46 : GX (fun z => z = c4) S45 S46 := by rw [eS46]; exact gx_sX
  have h_a := h_a.gx G46 n_a_c4
  have h_c1 := h_c1.gx G46 n_c1_c4
  have h_c2 := h_c2.gx G46 n_c2_c4
  have h_c3 := h_c3.gx G46 n_c3_c4
  have h_c5 := h_c5.gx G46 n_c5_c4
  have h_c6 := h_c6.gx G46 n_c6_c4
  have h_c7 := h_c7.gx G46 n_c7_c4
  have h_c8 := h_c8.gx G46 n_c8_c4
  have h_c9 := h_c9.gx G46 n_c9_c4
  have h_c10 := h_c10.gx G46 n_c10_c4
  have h_c11 := h_c11.gx G46 n_c11_c4
  have h_c12 := h_c12.gx G46 n_c12_c4
  have h_c13 := h_c13.gx G46 n_c13_c4
  have h_c14 := h_c14.gx G46 n_c14_c4
  have h_c15 := h_c15.gx G46 n_c15_c4
  have h_c16 := h_c16.gx G46 n_c16_c4
  have h_c17 := h_c17.gx G46 n_c17_c4
  have Gt46 : GX (fun z => z = a) S S46 := GX.tr Gt45 G46 (fun z hz e => absurd hz (e ▸ f_c4))
  have Nn := Nn.gx G46
  have h_c4 : AR S46 c4 4 (upd (upd (upd (fun _ => 0) 0 (-1)) 1 (-1)) 2 (-1)) := by rw [eS46]; exact h_c4.w
  refine V_inc (pc := 184) (fun y => [(0, .ref a), (1, .int y)]) (w := 1) dX9_init_184 (by decide) (by decide) rfl (fun _ => rfl) (fun y184 ey184 => ?_)
  obtain rfl : y184 = nI 3 := by rw [ey184]; exact nI_1 _
  refine V_goto (pc := 187) (t := 172) dX9_init_187 (by decide) ?_
  refine V_iln (pc := 172) dX9_init_172 rfl rfl ?_
  refine V_iconst (pc := 173) (v := 4) dX9_init_173 (by decide) ?_
  refine V_cge (pc := 174) (t := 190) dX9_init_174 (by decide) (fun h => absurd h (by decide)) (fun _ => ?_)
  refine V_aln (pc := 177) dX9_init_177 rfl rfl ?_
  refine V_gr (pc := 178) 9 4 292 dX9_init_178 (FL_X9_19 rfl) rfl rfl h_a.1 ((h_a.2.1 292).trans rfl) ?_
  refine V_iln (pc := 181) dX9_init_181 rfl rfl ?_
  refine V_iconst (pc := 182) (v := (-1)) dX9_init_182 (by decide) ?_
  refine V_ias (pc := 183) (N := 4) 3 dX9_init_183 h_c4.1 h_c4.2.1 (by decide) (by first | rfl | decide) (by decide) ?_
  obtain ⟨S47, eS47⟩ : ∃ Z, Z = sX S46 c4 (upd (gX S46 c4) 3 (-1)) := ⟨_, rfl⟩
  rw [← eS47]
  have G47 : GX (fun z => z = c4) S46 S47 := by rw [eS47]; exact gx_sX
  have h_a := h_a.gx G47 n_a_c4
  have h_c1 := h_c1.gx G47 n_c1_c4
  have h_c2 := h_c2.gx G47 n_c2_c4
  have h_c3 := h_c3.gx G47 n_c3_c4
  have h_c5 := h_c5.gx G47 n_c5_c4
  have h_c6 := h_c6.gx G47 n_c6_c4
  have h_c7 := h_c7.gx G47 n_c7_c4
  have h_c8 := h_c8.gx G47 n_c8_c4
  have h_c9 := h_c9.gx G47 n_c9_c4
  have h_c10 := h_c10.gx G47 n_c10_c4
  have h_c11 := h_c11.gx G47 n_c11_c4
  have h_c12 := h_c12.gx G47 n_c12_c4
  have h_c13 := h_c13.gx G47 n_c13_c4
  have h_c14 := h_c14.gx G47 n_c14_c4
  have h_c15 := h_c15.gx G47 n_c15_c4
  have h_c16 := h_c16.gx G47 n_c16_c4
  have h_c17 := h_c17.gx G47 n_c17_c4
  have Gt47 : GX (fun z => z = a) S S47 := GX.tr Gt46 G47 (fun z hz e => absurd hz (e ▸ f_c4))
  have Nn := Nn.gx G47
  have h_c4 : AR S47 c4 4 (upd (upd (upd (upd (fun _ => 0) 0 (-1)) 1 (-1)) 2 (-1)) 3 (-1)) := by rw [eS47]; exact h_c4.w
  refine V_inc (pc := 184) (fun y => [(0, .ref a), (1, .int y)]) (w := 1) dX9_init_184 (by decide) (by decide) rfl (fun _ => rfl) (fun y184 ey184 => ?_)
  obtain rfl : y184 = nI 4 := by rw [ey184]; exact nI_1 _
  refine V_goto (pc := 187) (t := 172) dX9_init_187 (by decide) ?_
  refine V_iln (pc := 172) dX9_init_172 rfl rfl ?_
  refine V_iconst (pc := 173) (v := 4) dX9_init_173 (by decide) ?_
  refine V_cge (pc := 174) (t := 190) dX9_init_174 (by decide) (fun _ => ?_) (fun h => absurd h (by decide))
  refine V_ret (pc := 190) dX9_init_190 rfl ?_
  exact h (fun f => [c17, c16, c15, c14, c13, c12, c11, c10, c9, c8, c7, c6, c5, c4, c3, c2, c1, a].getD (aix f) 0) S47 Gt47 (fun f hf => mz_fr f hf f_c1 f_c2 f_c3 f_c4 f_c5 f_c6 f_c7 f_c8 f_c9 f_c10 f_c11 f_c12 f_c13 f_c14 f_c15 f_c16 f_c17) (mz_mf Nn h_a h_c1 h_c2 h_c3 h_c4 h_c5 h_c6 h_c7 h_c8 h_c9 h_c10 h_c11 h_c12 h_c13 h_c14 h_c15 h_c16 h_c17) (mz_mr h_a h_c1 h_c2 h_c3 h_c4 h_c5 h_c6 h_c7 h_c8 h_c9 h_c10 h_c11 h_c12 h_c13 h_c14 h_c15 h_c16 h_c17)
