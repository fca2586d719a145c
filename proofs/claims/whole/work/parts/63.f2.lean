/-! ===== a World is made ===== -/
theorem Nd.j1 {S S0 : pS} {l : List Nat} {a b1 : Nat} (h : Nd S (b1 :: l)) (h0 : Nd S0 l) (ha : a ∉ gL S0) (n1 : b1 ≠ a) (ha' : a ∈ gL S) : Nd S (a :: b1 :: l) := h.i (fun b hb => by
  rcases List.mem_cons.mp hb with e | e
  · rw [e]; exact n1
  · exact fun w => ha (w ▸ h0.2 b e)) ha'
theorem Nd.j2 {S S0 : pS} {l : List Nat} {a b1 b2 : Nat} (h : Nd S (b1 :: b2 :: l)) (h0 : Nd S0 l) (ha : a ∉ gL S0) (n1 : b1 ≠ a) (n2 : b2 ≠ a) (ha' : a ∈ gL S) : Nd S (a :: b1 :: b2 :: l) := h.i (fun b hb => by
  rcases List.mem_cons.mp hb with e | e
  · rw [e]; exact n1
  · rcases List.mem_cons.mp e with e | e
    · rw [e]; exact n2
    · exact fun w => ha (w ▸ h0.2 b e)) ha'
def s0 : Nat → Int32 := (upd (upd (upd (upd (upd (upd (upd (upd (upd (fun _ => 0) 4 1) 6 100) 7 100) 8 100) 9 100) 10 100) 11 100) 12 100) 13 100)
theorem s0_0 {k : Nat} (h : 14 ≤ k) : s0 k = 0 := by
  unfold s0
  rw [pk_un (by omega), pk_un (by omega), pk_un (by omega), pk_un (by omega), pk_un (by omega), pk_un (by omega), pk_un (by omega), pk_un (by omega), pk_un (by omega)]
theorem s0_6 : ∀ j, j < 8 → s0 (6 + j) = 100
  | 0, _ => rfl
  | 1, _ => rfl
  | 2, _ => rfl
  | 3, _ => rfl
  | 4, _ => rfl
  | 5, _ => rfl
  | 6, _ => rfl
  | 7, _ => rfl
  | j + 8, h => absurd h (by omega)
/-- a World as it is made -/
def WZ (S : pS) (ad : Nat → Nat) : Prop := (∀ i, wIx i → hk S (ad i) (wK i)) ∧ (∀ i, i ∈ [1, 2, 4, 5, 6, 8] → gN S (ad i) = wN i) ∧ (gR S 224 (ad 0) = some (ad 1) ∧ gR S 226 (ad 0) = some (ad 2) ∧ gR S 227 (ad 0) = some (ad 3) ∧ gR S 231 (ad 0) = some (ad 5) ∧ gR S 233 (ad 0) = some (ad 6) ∧ gR S 234 (ad 0) = some (ad 7) ∧ gR S 235 (ad 0) = some (ad 8) ∧ gR S 0 (ad 3) = some (ad 4)) ∧ (∀ i, i < 10 → gY S (ad 1) i = some (ad (10 + i))) ∧ (∀ i j, wIx i → wIx j → ad i = ad j → i = j) ∧ WR S ad s0 ∧ (∀ k, k < 3 → gX S (ad 6) k = -1000000005) ∧ ∀ k, gY S (ad 5) k = none
theorem WZ.gx {S S' : pS} {D : Nat → Prop} {ad : Nat → Nat} (h : WZ S ad) (G : GX D S S') (n : ∀ i, wIx i → ¬ D (ad i)) : WZ S' ad := by
  obtain ⟨h1, h2, h3, h4, h5, h6, h7, h8⟩ := h
  have at_ : ∀ i, wIx i → gN S' (ad i) = gN S (ad i) ∧ (∀ f, gR S' f (ad i) = gR S f (ad i)) ∧ gY S' (ad i) = gY S (ad i) ∧ (∀ f, gI S' f (ad i) = gI S f (ad i)) ∧ gX S' (ad i) = gX S (ad i) := fun i hi => (G.1 (ad i) (h1 i hi).1).2.2 (n i hi)
  have r0 := (at_ 0 (by decide)).2.1
  refine ⟨fun i hi => G.hk (h1 i hi), fun i hi => ?_, ?_, fun i hi => ?_, h5, ⟨fun f i k hc => ?_, fun j hj => ?_, fun j hj => ?_⟩, fun k hk => ?_, fun k => ?_⟩
  · have hw : wIx i := by
      simp only [List.mem_cons, List.not_mem_nil, or_false] at hi
      unfold wIx; omega
    rw [(at_ i hw).1]; exact h2 i hi
  · rw [r0, r0, r0, r0, r0, r0, r0, (at_ 3 (by decide)).2.1]; exact h3
  · rw [(at_ 1 (by decide)).2.2.1]; exact h4 i hi
  · rw [(at_ i (cI_ix hc).1).2.2.2.1]; exact h6.1 f i k hc
  · rw [(at_ 2 (by decide)).2.2.2.2]; exact h6.2.1 j hj
  · rw [(at_ 4 (by decide)).2.2.2.2]; exact h6.2.2 j hj
  · rw [(at_ 6 (by decide)).2.2.2.2]; exact h7 k hk
  · rw [(at_ 5 (by decide)).2.2.1]; exact h8 k
def wix (i : Nat) : Nat := if i < 9 then 18 - i else 19 - i
theorem wz_fr {S : pS} {a c1 c2 c3 c4 c5 c6 c7 c8 c9 c10 c11 c12 c13 c14 c15 c16 c17 c18 : Nat} (i : Nat) (hi : wIx i) (h0 : i ≠ 0) (f_c1 : c1 ∉ gL S) (f_c2 : c2 ∉ gL S) (f_c3 : c3 ∉ gL S) (f_c4 : c4 ∉ gL S) (f_c5 : c5 ∉ gL S) (f_c6 : c6 ∉ gL S) (f_c7 : c7 ∉ gL S) (f_c8 : c8 ∉ gL S) (f_c9 : c9 ∉ gL S) (f_c10 : c10 ∉ gL S) (f_c11 : c11 ∉ gL S) (f_c12 : c12 ∉ gL S) (f_c13 : c13 ∉ gL S) (f_c14 : c14 ∉ gL S) (f_c15 : c15 ∉ gL S) (f_c16 : c16 ∉ gL S) (f_c17 : c17 ∉ gL S) (f_c18 : c18 ∉ gL S) : [c18, c17, c16, c15, c14, c13, c12, c11, c10, c9, c8, c7, c6, c5, c4, c3, c2, c1, a].getD (wix i) 0 ∉ gL S :=
  match i, hi, h0 with
  | 0, _, h => absurd rfl h
  | 1, _, _ => f_c1
  | 2, _, _ => f_c2
  | 3, _, _ => f_c3
  | 4, _, _ => f_c4
  | 5, _, _ => f_c5
  | 6, _, _ => f_c6
  | 7, _, _ => f_c7
  | 8, _, _ => f_c8
  | 10, _, _ => f_c9
  | 11, _, _ => f_c10
  | 12, _, _ => f_c11
  | 13, _, _ => f_c12
  | 14, _, _ => f_c13
  | 15, _, _ => f_c14
  | 16, _, _ => f_c15
  | 17, _, _ => f_c16
  | 18, _, _ => f_c17
  | 19, _, _ => f_c18
  | 9, h, _ => absurd rfl h.2
  | n + 20, h, _ => absurd h.1 (by omega)
set_option maxRecDepth 100000 in
set_option maxHeartbeats 1000000 in
theorem wz_mk {S : pS} {a c1 c2 c3 c4 c5 c6 c7 c8 c9 c10 c11 c12 c13 c14 c15 c16 c17 c18 : Nat} {R : Nat → Option Nat} {gX0 : Nat → Int32} (Nn : Nd S [c18, c17, c16, c15, c14, c13, c12, c11, c10, c9, c8, c7, c6, c5, c4, c3, c2, c1, a]) (h_a : OB S a 7 (va_up (va_up (va_up (va_up (va_up (va_up (va_up (R) 224 (some c1)) 226 (some c2)) 227 (some c3)) 231 (some c5)) 233 (some c6)) 234 (some c7)) 235 (some c8)) (va_up (fun _ => 0) 230 1)) (h_c1 : RA S c1 14 10 (va_up (va_up (va_up (va_up (va_up (va_up (va_up (va_up (va_up (va_up (fun _ => none) 0 (some c9)) 1 (some c10)) 2 (some c11)) 3 (some c12)) 4 (some c13)) 5 (some c14)) 6 (some c15)) 7 (some c16)) 8 (some c17)) 9 (some c18))) (h_c2 : AR S c2 8 (fa_fill (fun _ => 100) (gX0) 8)) (h_c3 : OB S c3 0 (va_up (fun _ => none) 0 (some c4)) (fun _ => 0)) (h_c4 : AR S c4 100 (fun _ => 0)) (h_c5 : RA S c5 13 14 (fun _ => none)) (h_c6 : AR S c6 3 (upd (upd (upd (fun _ => 0) 0 (-1000000005)) 1 (-1000000005)) 2 (-1000000005))) (h_c7 : OB S c7 6 (fun _ => none) (fun _ => 0)) (h_c8 : AR S c8 10 (fun _ => 0)) (h_c9 : OB S c9 6 (fun _ => none) (fun _ => 0)) (h_c10 : OB S c10 6 (fun _ => none) (fun _ => 0)) (h_c11 : OB S c11 6 (fun _ => none) (fun _ => 0)) (h_c12 : OB S c12 6 (fun _ => none) (fun _ => 0)) (h_c13 : OB S c13 6 (fun _ => none) (fun _ => 0)) (h_c14 : OB S c14 6 (fun _ => none) (fun _ => 0)) (h_c15 : OB S c15 6 (fun _ => none) (fun _ => 0)) (h_c16 : OB S c16 6 (fun _ => none) (fun _ => 0)) (h_c17 : OB S c17 6 (fun _ => none) (fun _ => 0)) (h_c18 : OB S c18 6 (fun _ => none) (fun _ => 0)) : WZ S (fun i => [c18, c17, c16, c15, c14, c13, c12, c11, c10, c9, c8, c7, c6, c5, c4, c3, c2, c1, a].getD (wix i) 0) := by
  refine ⟨fun i hi => ?_, fun i hi => ?_, ?_, fun i hi => ?_, fun i j hi hj e => ?_, ⟨fun f i k hc => ?_, fun j hj => ?_, fun j hj => ?_⟩, fun k hk => ?_, fun k => ?_⟩
  · match i, hi with
    | 0, _ => exact h_a.1
    | 1, _ => exact h_c1.1
    | 2, _ => exact h_c2.1
    | 3, _ => exact h_c3.1
    | 4, _ => exact h_c4.1
    | 5, _ => exact h_c5.1
    | 6, _ => exact h_c6.1
    | 7, _ => exact h_c7.1
    | 8, _ => exact h_c8.1
    | 10, _ => exact h_c9.1
    | 11, _ => exact h_c10.1
    | 12, _ => exact h_c11.1
    | 13, _ => exact h_c12.1
    | 14, _ => exact h_c13.1
    | 15, _ => exact h_c14.1
    | 16, _ => exact h_c15.1
    | 17, _ => exact h_c16.1
    | 18, _ => exact h_c17.1
    | 19, _ => exact h_c18.1
    | 9, h => exact absurd rfl h.2
    | n + 20, h => exact absurd h.1 (by omega)
  · simp only [List.mem_cons, List.not_mem_nil, or_false] at hi
    rcases hi with e | e | e | e | e | e <;> subst e
    · exact h_c1.2.1
    · exact h_c2.2.1
    · exact h_c4.2.1
    · exact h_c5.2.1
    · exact h_c6.2.1
    · exact h_c8.2.1
  · exact ⟨(h_a.2.1 224).trans rfl, (h_a.2.1 226).trans rfl, (h_a.2.1 227).trans rfl, (h_a.2.1 231).trans rfl, (h_a.2.1 233).trans rfl, (h_a.2.1 234).trans rfl, (h_a.2.1 235).trans rfl, (h_c3.2.1 0).trans rfl⟩
  · match i, hi with
    | 0, _ => exact (congrFun h_c1.2.2 0).trans rfl
    | 1, _ => exact (congrFun h_c1.2.2 1).trans rfl
    | 2, _ => exact (congrFun h_c1.2.2 2).trans rfl
    | 3, _ => exact (congrFun h_c1.2.2 3).trans rfl
    | 4, _ => exact (congrFun h_c1.2.2 4).trans rfl
    | 5, _ => exact (congrFun h_c1.2.2 5).trans rfl
    | 6, _ => exact (congrFun h_c1.2.2 6).trans rfl
    | 7, _ => exact (congrFun h_c1.2.2 7).trans rfl
    | 8, _ => exact (congrFun h_c1.2.2 8).trans rfl
    | 9, _ => exact (congrFun h_c1.2.2 9).trans rfl
    | n + 10, h => exact absurd h (by omega)
  · have b : ∀ i, wIx i → wix i < 19 := fun i hi => by unfold wix; split <;> omega
    have q := nd_inj _ Nn.1 (wix i) (wix j) (b i hi) (b j hj) e
    unfold wix at q
    unfold wIx at hi hj
    split at q <;> split at q <;> omega
  · rcases hc with ⟨rfl, hc⟩ | ⟨rfl, rfl, rfl⟩ | ⟨q1, q2, q3, q4, q5⟩
    · rcases hc with ⟨rfl, rfl⟩ | ⟨rfl, rfl⟩ | ⟨rfl, rfl⟩ | ⟨rfl, rfl⟩ | ⟨rfl, rfl⟩
      · exact (h_a.2.2 225).trans rfl
      · exact (h_a.2.2 228).trans rfl
      · exact (h_a.2.2 229).trans rfl
      · exact (h_a.2.2 230).trans rfl
      · exact (h_a.2.2 232).trans rfl
    · exact (h_c3.2.2 1).trans rfl
    · rw [s0_0 (by omega)]
      match i, q1, q2 with
      | 10, _, _ => exact h_c9.2.2 f
      | 11, _, _ => exact h_c10.2.2 f
      | 12, _, _ => exact h_c11.2.2 f
      | 13, _, _ => exact h_c12.2.2 f
      | 14, _, _ => exact h_c13.2.2 f
      | 15, _, _ => exact h_c14.2.2 f
      | 16, _, _ => exact h_c15.2.2 f
      | 17, _, _ => exact h_c16.2.2 f
      | 18, _, _ => exact h_c17.2.2 f
      | 19, _, _ => exact h_c18.2.2 f
      | 0, h, _ => exact absurd h (by omega)
      | 1, h, _ => exact absurd h (by omega)
      | 2, h, _ => exact absurd h (by omega)
      | 3, h, _ => exact absurd h (by omega)
      | 4, h, _ => exact absurd h (by omega)
      | 5, h, _ => exact absurd h (by omega)
      | 6, h, _ => exact absurd h (by omega)
      | 7, h, _ => exact absurd h (by omega)
      | 8, h, _ => exact absurd h (by omega)
      | 9, h, _ => exact absurd h (by omega)
      | n + 20, _, h => exact absurd h (by omega)
  · rw [s0_6 j hj]
    exact (congrFun h_c2.2.2 j).trans (fa_fill_in hj)
  · rw [s0_0 (by omega)]
    exact congrFun h_c4.2.2 j
  · match k, hk with
    | 0, _ => exact (congrFun h_c6.2.2 0).trans rfl
    | 1, _ => exact (congrFun h_c6.2.2 1).trans rfl
    | 2, _ => exact (congrFun h_c6.2.2 2).trans rfl
    | n + 3, h => exact absurd h (by omega)
  · exact congrFun h_c5.2.2 k
set_option maxRecDepth 100000 in
set_option maxHeartbeats 1000000 in
theorem i_X7 {x : pX} {d : Nat} {S : pS} {Q : pS → Prop} {a : Nat} {R : Nat → Option Nat} (ha : OB S a 7 R (fun _ => 0)) (h : ∀ (ad : Nat → Nat) (S2 : pS), ad 0 = a → GX (fun z => z = a) S S2 → (∀ i, wIx i → i ≠ 0 → ad i ∉ gL S) → WZ S2 ad → Q S2) : PV x (d + 2) M_X7_init [.ref a] S Q := by
  have Nn : Nd S [a] := Nd.i Nd.nil (fun _ q => absurd q List.not_mem_nil) ha.1.1
  refine PM_of (by decide +kernel) (Nat.le_of_ble_eq_true rfl) ?_
  show V x (d + 2) M_X7_init (qv Q) (18, 191) 0 [(0, .ref a)] [] S
  refine V_aln (pc := 0) dX7_init_0 rfl rfl ?_
  refine V_oi (pc := 1) (jo_X7_3 dX7_init_1 rfl) (by omega) (Nat.le_of_ble_eq_true rfl) ?_
  refine V_aln (pc := 4) dX7_init_4 rfl rfl ?_
  refine V_bipush (pc := 5) (v := 10) dX7_init_5 (by decide) ?_
  refine V_nq (pc := 7) 10 (jq_X7_9 dX7_init_7 rfl) (by decide) (by decide) (Nat.le_of_ble_eq_true rfl) (Nat.le_of_ble_eq_true rfl) (fun c1 q_c1 => ?_)
  obtain ⟨S1, eS1⟩ : ∃ Z, Z = nY S c1 14 10 := ⟨_, rfl⟩
  rw [← eS1]
  have G1 : GX (fun z => z = c1) S S1 := by rw [eS1]; exact gx_Y q_c1 (by decide)
  have f_c1 : c1 ∉ gL S := q_c1
  have n_a_c1 : a ≠ c1 := fun e => q_c1 (e ▸ ha.1.1)
  have n_c1_a := n_a_c1.symm
  have h_a := ha.gx G1 n_a_c1
  have Gt1 : GX (fun z => z = a) S S1 := GX.tr GX.rf G1 (fun z hz e => absurd hz (e ▸ f_c1))
  have h_c1 : RA S1 c1 14 10 (fun _ => none) := by rw [eS1]; exact ra_new
  have Nn := Nn.c q_c1 G1 h_c1.1.1
  refine V_prf (pc := 10) 7 0 224 dX7_init_10 (FL_X7_11 rfl) rfl rfl (fun _ => rfl) (fun _ => rfl) rfl rfl rfl h_a.1 ?_
  obtain ⟨S2, eS2⟩ : ∃ Z, Z = sR S1 224 a (some c1) := ⟨_, rfl⟩
  rw [← eS2]
  have G2 : GX (fun z => z = a) S1 S2 := by rw [eS2]; exact gx_R
  have h_c1 := h_c1.gx G2 n_c1_a
  have Gt2 : GX (fun z => z = a) S S2 := GX.tr Gt1 G2 (fun z hz e => e)
  have Nn := Nn.gx G2
  have h_a : OB S2 a 7 (va_up (R) 224 (some c1)) (fun _ => 0) := by rw [eS2]; exact h_a.wR
  refine V_aln (pc := 13) dX7_init_13 rfl rfl ?_
  refine V_bipush (pc := 14) (v := 8) dX7_init_14 (by decide) ?_
  refine V_na (pc := 16) 8 (ja_int dX7_init_16) (by decide) (by decide) (Nat.le_of_ble_eq_true rfl) (Nat.le_of_ble_eq_true rfl) (fun c2 q_c2 => ?_)
  obtain ⟨S3, eS3⟩ : ∃ Z, Z = nX S2 c2 8 := ⟨_, rfl⟩
  rw [← eS3]
  have G3 : GX (fun z => z = c2) S2 S3 := by rw [eS3]; exact gx_X q_c2
  have f_c2 : c2 ∉ gL S := GX.out Gt2 q_c2
  have n_a_c2 : a ≠ c2 := fun e => q_c2 (e ▸ h_a.1.1)
  have n_c2_a := n_a_c2.symm
  have n_c1_c2 : c1 ≠ c2 := fun e => q_c2 (e ▸ h_c1.1.1)
  have n_c2_c1 := n_c1_c2.symm
  have h_a := h_a.gx G3 n_a_c2
  have h_c1 := h_c1.gx G3 n_c1_c2
  have Gt3 : GX (fun z => z = a) S S3 := GX.tr Gt2 G3 (fun z hz e => absurd hz (e ▸ f_c2))
  have h_c2 : AR S3 c2 8 (fun _ => 0) := by rw [eS3]; exact ar_new
  have Nn := Nn.c q_c2 G3 h_c2.1.1
  refine V_prf (pc := 18) 7 2 226 dX7_init_18 (FL_X7_17 rfl) rfl rfl (fun _ => rfl) (fun _ => rfl) rfl rfl rfl h_a.1 ?_
  obtain ⟨S4, eS4⟩ : ∃ Z, Z = sR S3 226 a (some c2) := ⟨_, rfl⟩
  rw [← eS4]
  have G4 : GX (fun z => z = a) S3 S4 := by rw [eS4]; exact gx_R
  have h_c1 := h_c1.gx G4 n_c1_a
  have h_c2 := h_c2.gx G4 n_c2_a
  have Gt4 : GX (fun z => z = a) S S4 := GX.tr Gt3 G4 (fun z hz e => e)
  have Nn := Nn.gx G4
  have h_a : OB S4 a 7 (va_up (va_up (R) 224 (some c1)) 226 (some c2)) (fun _ => 0) := by rw [eS4]; exact h_a.wR
  refine V_aln (pc := 21) dX7_init_21 rfl rfl ?_
  refine V_new (pc := 22) (jn_X7_21 dX7_init_22 rfl) (Nat.le_of_ble_eq_true rfl) (Nat.le_of_ble_eq_true rfl) (fun c3 q_c3 => ?_)
  obtain ⟨S5, eS5⟩ : ∃ Z, Z = nO S4 c3 0 := ⟨_, rfl⟩
  rw [← eS5]
  have G5 : GX (fun z => z = c3) S4 S5 := by rw [eS5]; exact gx_O q_c3 (by decide)
  have f_c3 : c3 ∉ gL S := GX.out Gt4 q_c3
  have n_a_c3 : a ≠ c3 := fun e => q_c3 (e ▸ h_a.1.1)
  have n_c3_a := n_a_c3.symm
  have n_c1_c3 : c1 ≠ c3 := fun e => q_c3 (e ▸ h_c1.1.1)
  have n_c3_c1 := n_c1_c3.symm
  have n_c2_c3 : c2 ≠ c3 := fun e => q_c3 (e ▸ h_c2.1.1)
  have n_c3_c2 := n_c2_c3.symm
  have h_a := h_a.gx G5 n_a_c3
  have h_c1 := h_c1.gx G5 n_c1_c3
  have h_c2 := h_c2.gx G5 n_c2_c3
  have Gt5 : GX (fun z => z = a) S S5 := GX.tr Gt4 G5 (fun z hz e => absurd hz (e ▸ f_c3))
  have h_c3 : OB S5 c3 0 (fun _ => none) (fun _ => 0) := by rw [eS5]; exact ob_new
  have Nn := Nn.c q_c3 G5 h_c3.1.1
  refine V_dup (pc := 25) dX7_init_25 rfl ?_
  refine V_cIv (pc := 26) (jc_X7_23 dX7_init_26 rfl) rfl (Nat.le_of_ble_eq_true rfl) (Nat.le_of_ble_eq_true rfl) (Nat.le_of_ble_eq_true rfl) ?_
  refine i_X0 h_c3 (fun c4 S6 G6 q_c4  h_N h_c4 => ?_)
  have f_c4 : c4 ∉ gL S := GX.out Gt5 q_c4
  have n_a_c4 : a ≠ c4 := fun e => q_c4 (e ▸ h_a.1.1)
  have n_c4_a := n_a_c4.symm
  have n_c1_c4 : c1 ≠ c4 := fun e => q_c4 (e ▸ h_c1.1.1)
  have n_c4_c1 := n_c1_c4.symm
  have n_c2_c4 : c2 ≠ c4 := fun e => q_c4 (e ▸ h_c2.1.1)
  have n_c4_c2 := n_c2_c4.symm
  have n_c3_c4 : c3 ≠ c4 := fun e => q_c4 (e ▸ h_c3.1.1)
  have n_c4_c3 := n_c3_c4.symm
  have h_a := h_a.gx G6 n_a_c3
  have h_c1 := h_c1.gx G6 n_c1_c3
  have h_c2 := h_c2.gx G6 n_c2_c3
  have Gt6 : GX (fun z => z = a) S S6 := GX.tr Gt5 G6 (fun z hz e => absurd hz (e ▸ f_c3))
  have h_c3 := h_N
  have Nno := Nn
  have Nn := Nno.c q_c4 G6 h_c4.1.1
  refine V_prf (pc := 29) 7 3 227 dX7_init_29 (FL_X7_24 rfl) rfl rfl (fun _ => rfl) (fun _ => rfl) rfl rfl rfl h_a.1 ?_
  obtain ⟨S7, eS7⟩ : ∃ Z, Z = sR S6 227 a (some c3) := ⟨_, rfl⟩
  rw [← eS7]
  have G7 : GX (fun z => z = a) S6 S7 := by rw [eS7]; exact gx_R
  have h_c1 := h_c1.gx G7 n_c1_a
  have h_c2 := h_c2.gx G7 n_c2_a
  have h_c3 := h_c3.gx G7 n_c3_a
  have h_c4 := h_c4.gx G7 n_c4_a
  have Gt7 : GX (fun z => z = a) S S7 := GX.tr Gt6 G7 (fun z hz e => e)
  have Nn := Nn.gx G7
  have h_a : OB S7 a 7 (va_up (va_up (va_up (R) 224 (some c1)) 226 (some c2)) 227 (some c3)) (fun _ => 0) := by rw [eS7]; exact h_a.wR
  refine V_aln (pc := 32) dX7_init_32 rfl rfl ?_
  refine V_iconst (pc := 33) (v := 1) dX7_init_33 (by decide) ?_
  refine V_pi (pc := 34) 7 6 230 dX7_init_34 (FL_X7_28 rfl) rfl rfl rfl h_a.1 ?_
  obtain ⟨S8, eS8⟩ : ∃ Z, Z = sI S7 230 a 1 := ⟨_, rfl⟩
  rw [← eS8]
  have G8 : GX (fun z => z = a) S7 S8 := by rw [eS8]; exact gx_I
  have h_c1 := h_c1.gx G8 n_c1_a
  have h_c2 := h_c2.gx G8 n_c2_a
  have h_c3 := h_c3.gx G8 n_c3_a
  have h_c4 := h_c4.gx G8 n_c4_a
  have Gt8 : GX (fun z => z = a) S S8 := GX.tr Gt7 G8 (fun z hz e => e)
  have Nn := Nn.gx G8
  have h_a : OB S8 a 7 (va_up (va_up (va_up (R) 224 (some c1)) 226 (some c2)) 227 (some c3)) (va_up (fun _ => 0) 230 1) := by rw [eS8]; exact h_a.wI
  refine V_aln (pc := 37) dX7_init_37 rfl rfl ?_
  refine V_bipush (pc := 38) (v := 14) dX7_init_38 (by decide) ?_
  refine V_nq (pc := 40) 14 (jq_X7_32 dX7_init_40 rfl) (by decide) (by decide) (Nat.le_of_ble_eq_true rfl) (Nat.le_of_ble_eq_true rfl) (fun c5 q_c5 => ?_)
  obtain ⟨S9, eS9⟩ : ∃ Z, Z = nY S8 c5 13 14 := ⟨_, rfl⟩
  rw [← eS9]
  have G9 : GX (fun z => z = c5) S8 S9 := by rw [eS9]; exact gx_Y q_c5 (by decide)
  have f_c5 : c5 ∉ gL S := GX.out Gt8 q_c5
  have n_a_c5 : a ≠ c5 := fun e => q_c5 (e ▸ h_a.1.1)
  have n_c5_a := n_a_c5.symm
  have n_c1_c5 : c1 ≠ c5 := fun e => q_c5 (e ▸ h_c1.1.1)
  have n_c5_c1 := n_c1_c5.symm
  have n_c2_c5 : c2 ≠ c5 := fun e => q_c5 (e ▸ h_c2.1.1)
  have n_c5_c2 := n_c2_c5.symm
  have n_c3_c5 : c3 ≠ c5 := fun e => q_c5 (e ▸ h_c3.1.1)
  have n_c5_c3 := n_c3_c5.symm
  have n_c4_c5 : c4 ≠ c5 := fun e => q_c5 (e ▸ h_c4.1.1)
  have n_c5_c4 := n_c4_c5.symm
  have h_a := h_a.gx G9 n_a_c5
  have h_c1 := h_c1.gx G9 n_c1_c5
  have h_c2 := h_c2.gx G9 n_c2_c5
  have h_c3 := h_c3.gx G9 n_c3_c5
  have h_c4 := h_c4.gx G9 n_c4_c5
  have Gt9 : GX (fun z => z = a) S S9 := GX.tr Gt8 G9 (fun z hz e => absurd hz (e ▸ f_c5))
  have h_c5 : RA S9 c5 13 14 (fun _ => none) := by rw [eS9]; exact ra_new
  have Nn := Nn.c q_c5 G9 h_c5.1.1
  refine V_prf (pc := 43) 7 7 231 dX7_init_43 (FL_X7_34 rfl) rfl rfl (fun _ => rfl) (fun _ => rfl) rfl rfl rfl h_a.1 ?_
  obtain ⟨S10, eS10⟩ : ∃ Z, Z = sR S9 231 a (some c5) := ⟨_, rfl⟩
  rw [← eS10]
  have G10 : GX (fun z => z = a) S9 S10 := by rw [eS10]; exact gx_R
  have h_c1 := h_c1.gx G10 n_c1_a
  have h_c2 := h_c2.gx G10 n_c2_a
  have h_c3 := h_c3.gx G10 n_c3_a
  have h_c4 := h_c4.gx G10 n_c4_a
  have h_c5 := h_c5.gx G10 n_c5_a
  have Gt10 : GX (fun z => z = a) S S10 := GX.tr Gt9 G10 (fun z hz e => e)
  have Nn := Nn.gx G10
  have h_a : OB S10 a 7 (va_up (va_up (va_up (va_up (R) 224 (some c1)) 226 (some c2)) 227 (some c3)) 231 (some c5)) (va_up (fun _ => 0) 230 1) := by rw [eS10]; exact h_a.wR
  refine V_aln (pc := 46) dX7_init_46 rfl rfl ?_
  refine V_iconst (pc := 47) (v := 3) dX7_init_47 (by decide) ?_
  refine V_na (pc := 48) 3 (ja_int dX7_init_48) (by decide) (by decide) (Nat.le_of_ble_eq_true rfl) (Nat.le_of_ble_eq_true rfl) (fun c6 q_c6 => ?_)
  obtain ⟨S11, eS11⟩ : ∃ Z, Z = nX S10 c6 3 := ⟨_, rfl⟩
  rw [← eS11]
  have G11 : GX (fun z => z = c6) S10 S11 := by rw [eS11]; exact gx_X q_c6
  have f_c6 : c6 ∉ gL S := GX.out Gt10 q_c6
  have n_a_c6 : a ≠ c6 := fun e => q_c6 (e ▸ h_a.1.1)
  have n_c6_a := n_a_c6.symm
  have n_c1_c6 : c1 ≠ c6 := fun e => q_c6 (e ▸ h_c1.1.1)
  have n_c6_c1 := n_c1_c6.symm
  have n_c2_c6 : c2 ≠ c6 := fun e => q_c6 (e ▸ h_c2.1.1)
  have n_c6_c2 := n_c2_c6.symm
  have n_c3_c6 : c3 ≠ c6 := fun e => q_c6 (e ▸ h_c3.1.1)
  have n_c6_c3 := n_c3_c6.symm
  have n_c4_c6 : c4 ≠ c6 := fun e => q_c6 (e ▸ h_c4.1.1)
  have n_c6_c4 := n_c4_c6.symm
  have n_c5_c6 : c5 ≠ c6 := fun e => q_c6 (e ▸ h_c5.1.1)
  have n_c6_c5 := n_c5_c6.symm
  have h_a := h_a.gx G11 n_a_c6
  have h_c1 := h_c1.gx G11 n_c1_c6
  have h_c2 := h_c2.gx G11 n_c2_c6
  have h_c3 := h_c3.gx G11 n_c3_c6
  have h_c4 := h_c4.gx G11 n_c4_c6
  have h_c5 := h_c5.gx G11 n_c5_c6
  have Gt11 : GX (fun z => z = a) S S11 := GX.tr Gt10 G11 (fun z hz e => absurd hz (e ▸ f_c6))
  have h_c6 : AR S11 c6 3 (fun _ => 0) := by rw [eS11]; exact ar_new
  have Nn := Nn.c q_c6 G11 h_c6.1.1
  refine V_dup (pc := 50) dX7_init_50 rfl ?_
  refine V_iconst (pc := 51) (v := 0) dX7_init_51 (by decide) ?_
  refine V_ldc (pc := 52) dX7_init_52 (KC_X7_38 rfl) ?_
  refine V_ias (pc := 54) (N := 3) 0 dX7_init_54 h_c6.1 h_c6.2.1 (by decide) (by first | rfl | decide) (by decide) ?_
  obtain ⟨S12, eS12⟩ : ∃ Z, Z = sX S11 c6 (upd (gX S11 c6) 0 (-1000000005)) := ⟨_, rfl⟩
  rw [← eS12]
  have G12 : GX (fun z => z = c6) S11 S12 := by rw [eS12]; exact gx_sX
  have h_a := h_a.gx G12 n_a_c6
  have h_c1 := h_c1.gx G12 n_c1_c6
  have h_c2 := h_c2.gx G12 n_c2_c6
  have h_c3 := h_c3.gx G12 n_c3_c6
  have h_c4 := h_c4.gx G12 n_c4_c6
  have h_c5 := h_c5.gx G12 n_c5_c6
  have Gt12 : GX (fun z => z = a) S S12 := GX.tr Gt11 G12 (fun z hz e => absurd hz (e ▸ f_c6))
  have Nn := Nn.gx G12
  have h_c6 : AR S12 c6 3 (upd (fun _ => 0) 0 (-1000000005)) := by rw [eS12]; exact h_c6.w
  refine V_dup (pc := 55) dX7_init_55 rfl ?_
  refine V_iconst (pc := 56) (v := 1) dX7_init_56 (by decide) ?_
  refine V_ldc (pc := 57) dX7_init_57 (KC_X7_38 rfl) ?_
  refine V_ias (pc := 59) (N := 3) 1 dX7_init_59 h_c6.1 h_c6.2.1 (by decide) (by first | rfl | decide) (by decide) ?_
  obtain ⟨S13, eS13⟩ : ∃ Z, Z = sX S12 c6 (upd (gX S12 c6) 1 (-1000000005)) := ⟨_, rfl⟩
  rw [← eS13]
  have G13 : GX (fun z => z = c6) S12 S13 := by rw [eS13]; exact gx_sX
  have h_a := h_a.gx G13 n_a_c6
  have h_c1 := h_c1.gx G13 n_c1_c6
  have h_c2 := h_c2.gx G13 n_c2_c6
  have h_c3 := h_c3.gx G13 n_c3_c6
  have h_c4 := h_c4.gx G13 n_c4_c6
  have h_c5 := h_c5.gx G13 n_c5_c6
  have Gt13 : GX (fun z => z = a) S S13 := GX.tr Gt12 G13 (fun z hz e => absurd hz (e ▸ f_c6))
  have Nn := Nn.gx G13
  have h_c6 : AR S13 c6 3 (upd (upd (fun _ => 0) 0 (-1000000005)) 1 (-1000000005)) := by rw [eS13]; exact h_c6.w
  refine V_dup (pc := 60) dX7_init_60 rfl ?_
  refine V_iconst (pc := 61) (v := 2) dX7_init_61 (by decide) ?_
  refine V_ldc (pc := 62) dX7_init_62 (KC_X7_38 rfl) ?_
  refine V_ias (pc := 64) (N := 3) 2 dX7_init_64 h_c6.1 h_c6.2.1 (by decide) (by first | rfl | decide) (by decide) ?_
  obtain ⟨S14, eS14⟩ : ∃ Z, Z = sX S13 c6 (upd (gX S13 c6) 2 (-1000000005)) := ⟨_, rfl⟩
  rw [← eS14]
  have G14 : GX (fun z => z = c6) S13 S14 := by rw [eS14]; exact gx_sX
  have h_a := h_a.gx G14 n_a_c6
  have h_c1 := h_c1.gx G14 n_c1_c6
  have h_c2 := h_c2.gx G14 n_c2_c6
  have h_c3 := h_c3.gx G14 n_c3_c6
  have h_c4 := h_c4.gx G14 n_c4_c6
  have h_c5 := h_c5.gx G14 n_c5_c6
  have Gt14 : GX (fun z => z = a) S S14 := GX.tr Gt13 G14 (fun z hz e => absurd hz (e ▸ f_c6))
  have Nn := Nn.gx G14
  have h_c6 : AR S14 c6 3 (upd (upd (upd (fun _ => 0) 0 (-1000000005)) 1 (-1000000005)) 2 (-1000000005)) := by rw [eS14]; exact h_c6.w
  refine V_prf (pc := 65) 7 9 233 dX7_init_65 (FL_X7_39 rfl) rfl rfl (fun _ => rfl) (fun _ => rfl) rfl rfl rfl h_a.1 ?_
  obtain ⟨S15, eS15⟩ : ∃ Z, Z = sR S14 233 a (some c6) := ⟨_, rfl⟩
  rw [← eS15]
  have G15 : GX (fun z => z = a) S14 S15 := by rw [eS15]; exact gx_R
  have h_c1 := h_c1.gx G15 n_c1_a
  have h_c2 := h_c2.gx G15 n_c2_a
  have h_c3 := h_c3.gx G15 n_c3_a
  have h_c4 := h_c4.gx G15 n_c4_a
  have h_c5 := h_c5.gx G15 n_c5_a
  have h_c6 := h_c6.gx G15 n_c6_a
  have Gt15 : GX (fun z => z = a) S S15 := GX.tr Gt14 G15 (fun z hz e => e)
  have Nn := Nn.gx G15
  have h_a : OB S15 a 7 (va_up (va_up (va_up (va_up (va_up (R) 224 (some c1)) 226 (some c2)) 227 (some c3)) 231 (some c5)) 233 (some c6)) (va_up (fun _ => 0) 230 1) := by rw [eS15]; exact h_a.wR
  refine V_aln (pc := 68) dX7_init_68 rfl rfl ?_
  refine V_new (pc := 69) (jn_X7_9 dX7_init_69 rfl) (Nat.le_of_ble_eq_true rfl) (Nat.le_of_ble_eq_true rfl) (fun c7 q_c7 => ?_)
  obtain ⟨S16, eS16⟩ : ∃ Z, Z = nO S15 c7 6 := ⟨_, rfl⟩
  rw [← eS16]
  have G16 : GX (fun z => z = c7) S15 S16 := by rw [eS16]; exact gx_O q_c7 (by decide)
  have f_c7 : c7 ∉ gL S := GX.out Gt15 q_c7
  have n_a_c7 : a ≠ c7 := fun e => q_c7 (e ▸ h_a.1.1)
  have n_c7_a := n_a_c7.symm
  have n_c1_c7 : c1 ≠ c7 := fun e => q_c7 (e ▸ h_c1.1.1)
  have n_c7_c1 := n_c1_c7.symm
  have n_c2_c7 : c2 ≠ c7 := fun e => q_c7 (e ▸ h_c2.1.1)
  have n_c7_c2 := n_c2_c7.symm
  have n_c3_c7 : c3 ≠ c7 := fun e => q_c7 (e ▸ h_c3.1.1)
  have n_c7_c3 := n_c3_c7.symm
  have n_c4_c7 : c4 ≠ c7 := fun e => q_c7 (e ▸ h_c4.1.1)
  have n_c7_c4 := n_c4_c7.symm
  have n_c5_c7 : c5 ≠ c7 := fun e => q_c7 (e ▸ h_c5.1.1)
  have n_c7_c5 := n_c5_c7.symm
  have n_c6_c7 : c6 ≠ c7 := fun e => q_c7 (e ▸ h_c6.1.1)
  have n_c7_c6 := n_c6_c7.symm
  have h_a := h_a.gx G16 n_a_c7
  have h_c1 := h_c1.gx G16 n_c1_c7
  have h_c2 := h_c2.gx G16 n_c2_c7
  have h_c3 := h_c3.gx G16 n_c3_c7
  have h_c4 := h_c4.gx G16 n_c4_c7
  have h_c5 := h_c5.gx G16 n_c5_c7
  have h_c6 := h_c6.gx G16 n_c6_c7
  have Gt16 : GX (fun z => z = a) S S16 := GX.tr Gt15 G16 (fun z hz e => absurd hz (e ▸ f_c7))
  have h_c7 : OB S16 c7 6 (fun _ => none) (fun _ => 0) := by rw [eS16]; exact ob_new
  have Nn := Nn.c q_c7 G16 h_c7.1.1
  refine V_dup (pc := 72) dX7_init_72 rfl ?_
  refine V_cIv0 (pc := 73) (jc_X7_42 dX7_init_73 rfl) rfl rfl (Nat.le_of_ble_eq_true rfl) ?_
  refine i_X6 h_c7 (fun  S17 G17   h_N  => ?_)
  have h_a := h_a.gx G17 n_a_c7
  have h_c1 := h_c1.gx G17 n_c1_c7
  have h_c2 := h_c2.gx G17 n_c2_c7
  have h_c3 := h_c3.gx G17 n_c3_c7
  have h_c4 := h_c4.gx G17 n_c4_c7
  have h_c5 := h_c5.gx G17 n_c5_c7
  have h_c6 := h_c6.gx G17 n_c6_c7
  have Gt17 : GX (fun z => z = a) S S17 := GX.tr Gt16 G17 (fun z hz e => absurd hz (e ▸ f_c7))
  have h_c7 := h_N
  have Nno := Nn
  have Nn := Nno.gx G17
  refine V_prf (pc := 76) 7 10 234 dX7_init_76 (FL_X7_43 rfl) rfl rfl (fun _ => rfl) (fun _ => rfl) rfl rfl rfl h_a.1 ?_
  obtain ⟨S18, eS18⟩ : ∃ Z, Z = sR S17 234 a (some c7) := ⟨_, rfl⟩
  rw [← eS18]
  have G18 : GX (fun z => z = a) S17 S18 := by rw [eS18]; exact gx_R
  have h_c1 := h_c1.gx G18 n_c1_a
  have h_c2 := h_c2.gx G18 n_c2_a
  have h_c3 := h_c3.gx G18 n_c3_a
  have h_c4 := h_c4.gx G18 n_c4_a
  have h_c5 := h_c5.gx G18 n_c5_a
  have h_c6 := h_c6.gx G18 n_c6_a
  have h_c7 := h_c7.gx G18 n_c7_a
  have Gt18 : GX (fun z => z = a) S S18 := GX.tr Gt17 G18 (fun z hz e => e)
  have Nn := Nn.gx G18
  have h_a : OB S18 a 7 (va_up (va_up (va_up (va_up (va_up (va_up (R) 224 (some c1)) 226 (some c2)) 227 (some c3)) 231 (some c5)) 233 (some c6)) 234 (some c7)) (va_up (fun _ => 0) 230 1) := by rw [eS18]; exact h_a.wR
  refine V_aln (pc := 79) dX7_init_79 rfl rfl ?_
  refine V_bipush (pc := 80) (v := 10) dX7_init_80 (by decide) ?_
  refine V_na (pc := 82) 10 (ja_int dX7_init_82) (by decide) (by decide) (Nat.le_of_ble_eq_true rfl) (Nat.le_of_ble_eq_true rfl) (fun c8 q_c8 => ?_)
  obtain ⟨S19, eS19⟩ : ∃ Z, Z = nX S18 c8 10 := ⟨_, rfl⟩
  rw [← eS19]
  have G19 : GX (fun z => z = c8) S18 S19 := by rw [eS19]; exact gx_X q_c8
  have f_c8 : c8 ∉ gL S := GX.out Gt18 q_c8
  have n_a_c8 : a ≠ c8 := fun e => q_c8 (e ▸ h_a.1.1)
  have n_c8_a := n_a_c8.symm
  have n_c1_c8 : c1 ≠ c8 := fun e => q_c8 (e ▸ h_c1.1.1)
  have n_c8_c1 := n_c1_c8.symm
  have n_c2_c8 : c2 ≠ c8 := fun e => q_c8 (e ▸ h_c2.1.1)
  have n_c8_c2 := n_c2_c8.symm
  have n_c3_c8 : c3 ≠ c8 := fun e => q_c8 (e ▸ h_c3.1.1)
  have n_c8_c3 := n_c3_c8.symm
  have n_c4_c8 : c4 ≠ c8 := fun e => q_c8 (e ▸ h_c4.1.1)
  have n_c8_c4 := n_c4_c8.symm
  have n_c5_c8 : c5 ≠ c8 := fun e => q_c8 (e ▸ h_c5.1.1)
  have n_c8_c5 := n_c5_c8.symm
  have n_c6_c8 : c6 ≠ c8 := fun e => q_c8 (e ▸ h_c6.1.1)
  have n_c8_c6 := n_c6_c8.symm
  have n_c7_c8 : c7 ≠ c8 := fun e => q_c8 (e ▸ h_c7.1.1)
  have n_c8_c7 := n_c7_c8.symm
  have h_a := h_a.gx G19 n_a_c8
  have h_c1 := h_c1.gx G19 n_c1_c8
  have h_c2 := h_c2.gx G19 n_c2_c8
  have h_c3 := h_c3.gx G19 n_c3_c8
  have h_c4 := h_c4.gx G19 n_c4_c8
  have h_c5 := h_c5.gx G19 n_c5_c8
  have h_c6 := h_c6.gx G19 n_c6_c8
  have h_c7 := h_c7.gx G19 n_c7_c8
  have Gt19 : GX (fun z => z = a) S S19 := GX.tr Gt18 G19 (fun z hz e => absurd hz (e ▸ f_c8))
  have h_c8 : AR S19 c8 10 (fun _ => 0) := by rw [eS19]; exact ar_new
  have Nn := Nn.c q_c8 G19 h_c8.1.1
  refine V_prf (pc := 84) 7 11 235 dX7_init_84 (FL_X7_47 rfl) rfl rfl (fun _ => rfl) (fun _ => rfl) rfl rfl rfl h_a.1 ?_
  obtain ⟨S20, eS20⟩ : ∃ Z, Z = sR S19 235 a (some c8) := ⟨_, rfl⟩
  rw [← eS20]
  have G20 : GX (fun z => z = a) S19 S20 := by rw [eS20]; exact gx_R
  have h_c1 := h_c1.gx G20 n_c1_a
  have h_c2 := h_c2.gx G20 n_c2_a
  have h_c3 := h_c3.gx G20 n_c3_a
  have h_c4 := h_c4.gx G20 n_c4_a
  have h_c5 := h_c5.gx G20 n_c5_a
  have h_c6 := h_c6.gx G20 n_c6_a
  have h_c7 := h_c7.gx G20 n_c7_a
  have h_c8 := h_c8.gx G20 n_c8_a
  have Gt20 : GX (fun z => z = a) S S20 := GX.tr Gt19 G20 (fun z hz e => e)
  have Nn := Nn.gx G20
  have h_a : OB S20 a 7 (va_up (va_up (va_up (va_up (va_up (va_up (va_up (R) 224 (some c1)) 226 (some c2)) 227 (some c3)) 231 (some c5)) 233 (some c6)) 234 (some c7)) 235 (some c8)) (va_up (fun _ => 0) 230 1) := by rw [eS20]; exact h_a.wR
  refine V_iconst (pc := 87) (v := 0) dX7_init_87 (by decide) ?_
  refine V_isn (pc := 88) (fun y => [(0, .ref a), (1, .int y)]) dX7_init_88 rfl (by decide) (fun _ => rfl) (fun y88 ey88 => ?_)
  obtain rfl : y88 = nI 0 := ey88
  refine V_iln (pc := 89) dX7_init_89 rfl rfl ?_
  refine V_bipush (pc := 90) (v := 10) dX7_init_90 (by decide) ?_
  refine V_cge (pc := 92) (t := 114) dX7_init_92 (by decide) (fun h => absurd h (by decide)) (fun _ => ?_)
  refine V_aln (pc := 95) dX7_init_95 rfl rfl ?_
  refine V_gr (pc := 96) 7 0 224 dX7_init_96 (FL_X7_11 rfl) rfl rfl h_a.1 ((h_a.2.1 224).trans rfl) ?_
  refine V_iln (pc := 99) dX7_init_99 rfl rfl ?_
  refine V_new (pc := 100) (jn_X7_9 dX7_init_100 rfl) (Nat.le_of_ble_eq_true rfl) (Nat.le_of_ble_eq_true rfl) (fun c9 q_c9 => ?_)
  obtain ⟨S21, eS21⟩ : ∃ Z, Z = nO S20 c9 6 := ⟨_, rfl⟩
  rw [← eS21]
  have G21 : GX (fun z => z = c9) S20 S21 := by rw [eS21]; exact gx_O q_c9 (by decide)
  have f_c9 : c9 ∉ gL S := GX.out Gt20 q_c9
  have n_a_c9 : a ≠ c9 := fun e => q_c9 (e ▸ h_a.1.1)
  have n_c9_a := n_a_c9.symm
  have n_c1_c9 : c1 ≠ c9 := fun e => q_c9 (e ▸ h_c1.1.1)
  have n_c9_c1 := n_c1_c9.symm
  have n_c2_c9 : c2 ≠ c9 := fun e => q_c9 (e ▸ h_c2.1.1)
  have n_c9_c2 := n_c2_c9.symm
  have n_c3_c9 : c3 ≠ c9 := fun e => q_c9 (e ▸ h_c3.1.1)
  have n_c9_c3 := n_c3_c9.symm
  have n_c4_c9 : c4 ≠ c9 := fun e => q_c9 (e ▸ h_c4.1.1)
  have n_c9_c4 := n_c4_c9.symm
  have n_c5_c9 : c5 ≠ c9 := fun e => q_c9 (e ▸ h_c5.1.1)
  have n_c9_c5 := n_c5_c9.symm
  have n_c6_c9 : c6 ≠ c9 := fun e => q_c9 (e ▸ h_c6.1.1)
  have n_c9_c6 := n_c6_c9.symm
  have n_c7_c9 : c7 ≠ c9 := fun e => q_c9 (e ▸ h_c7.1.1)
  have n_c9_c7 := n_c7_c9.symm
  have n_c8_c9 : c8 ≠ c9 := fun e => q_c9 (e ▸ h_c8.1.1)
  have n_c9_c8 := n_c8_c9.symm
  have h_a := h_a.gx G21 n_a_c9
  have h_c1 := h_c1.gx G21 n_c1_c9
  have h_c2 := h_c2.gx G21 n_c2_c9
  have h_c3 := h_c3.gx G21 n_c3_c9
  have h_c4 := h_c4.gx G21 n_c4_c9
  have h_c5 := h_c5.gx G21 n_c5_c9
  have h_c6 := h_c6.gx G21 n_c6_c9
  have h_c7 := h_c7.gx G21 n_c7_c9
  have h_c8 := h_c8.gx G21 n_c8_c9
  have Gt21 : GX (fun z => z = a) S S21 := GX.tr Gt20 G21 (fun z hz e => absurd hz (e ▸ f_c9))
  have h_c9 : OB S21 c9 6 (fun _ => none) (fun _ => 0) := by rw [eS21]; exact ob_new
  have Nn := Nn.c q_c9 G21 h_c9.1.1
  refine V_dup (pc := 103) dX7_init_103 rfl ?_
  refine V_cIv0 (pc := 104) (jc_X7_42 dX7_init_104 rfl) rfl rfl (Nat.le_of_ble_eq_true rfl) ?_
  refine i_X6 h_c9 (fun  S22 G22   h_N  => ?_)
  have h_a := h_a.gx G22 n_a_c9
  have h_c1 := h_c1.gx G22 n_c1_c9
  have h_c2 := h_c2.gx G22 n_c2_c9
  have h_c3 := h_c3.gx G22 n_c3_c9
  have h_c4 := h_c4.gx G22 n_c4_c9
  have h_c5 := h_c5.gx G22 n_c5_c9
  have h_c6 := h_c6.gx G22 n_c6_c9
  have h_c7 := h_c7.gx G22 n_c7_c9
  have h_c8 := h_c8.gx G22 n_c8_c9
  have Gt22 : GX (fun z => z = a) S S22 := GX.tr Gt21 G22 (fun z hz e => absurd hz (e ▸ f_c9))
  have h_c9 := h_N
  have Nno := Nn
  have Nn := Nno.gx G22
  refine V_aas (pc := 107) (N := 10) 14 6 0 dX7_init_107 (by decide) (by decide) (by decide) rfl h_c1.1 h_c9.1 h_c1.2.1 (by decide) (by first | rfl | decide) (by decide) ?_
  obtain ⟨S23, eS23⟩ : ∃ Z, Z = sY S22 c1 (va_up (gY S22 c1) 0 (some c9)) := ⟨_, rfl⟩
  rw [← eS23]
  have G23 : GX (fun z => z = c1) S22 S23 := by rw [eS23]; exact gx_sY
  have h_a := h_a.gx G23 n_a_c1
  have h_c2 := h_c2.gx G23 n_c2_c1
  have h_c3 := h_c3.gx G23 n_c3_c1
  have h_c4 := h_c4.gx G23 n_c4_c1
  have h_c5 := h_c5.gx G23 n_c5_c1
  have h_c6 := h_c6.gx G23 n_c6_c1
  have h_c7 := h_c7.gx G23 n_c7_c1
  have h_c8 := h_c8.gx G23 n_c8_c1
  have h_c9 := h_c9.gx G23 n_c9_c1
  have Gt23 : GX (fun z => z = a) S S23 := GX.tr Gt22 G23 (fun z hz e => absurd hz (e ▸ f_c1))
  have Nn := Nn.gx G23
  have h_c1 : RA S23 c1 14 10 (va_up (fun _ => none) 0 (some c9)) := by rw [eS23]; exact h_c1.w
  refine V_inc (pc := 108) (fun y => [(0, .ref a), (1, .int y)]) (w := 1) dX7_init_108 (by decide) (by decide) rfl (fun _ => rfl) (fun y108 ey108 => ?_)
  obtain rfl : y108 = nI 1 := by rw [ey108]; exact nI_1 _
  refine V_goto (pc := 111) (t := 89) dX7_init_111 (by decide) ?_
  refine V_iln (pc := 89) dX7_init_89 rfl rfl ?_
  refine V_bipush (pc := 90) (v := 10) dX7_init_90 (by decide) ?_
  refine V_cge (pc := 92) (t := 114) dX7_init_92 (by decide) (fun h => absurd h (by decide)) (fun _ => ?_)
  refine V_aln (pc := 95) dX7_init_95 rfl rfl ?_
  refine V_gr (pc := 96) 7 0 224 dX7_init_96 (FL_X7_11 rfl) rfl rfl h_a.1 ((h_a.2.1 224).trans rfl) ?_
  refine V_iln (pc := 99) dX7_init_99 rfl rfl ?_
  refine V_new (pc := 100) (jn_X7_9 dX7_init_100 rfl) (Nat.le_of_ble_eq_true rfl) (Nat.le_of_ble_eq_true rfl) (fun c10 q_c10 => ?_)
  obtain ⟨S24, eS24⟩ : ∃ Z, Z = nO S23 c10 6 := ⟨_, rfl⟩
  rw [← eS24]
  have G24 : GX (fun z => z = c10) S23 S24 := by rw [eS24]; exact gx_O q_c10 (by decide)
  have f_c10 : c10 ∉ gL S := GX.out Gt23 q_c10
  have n_a_c10 : a ≠ c10 := fun e => q_c10 (e ▸ h_a.1.1)
  have n_c10_a := n_a_c10.symm
  have n_c1_c10 : c1 ≠ c10 := fun e => q_c10 (e ▸ h_c1.1.1)
  have n_c10_c1 := n_c1_c10.symm
  have n_c2_c10 : c2 ≠ c10 := fun e => q_c10 (e ▸ h_c2.1.1)
  have n_c10_c2 := n_c2_c10.symm
  have n_c3_c10 : c3 ≠ c10 := fun e => q_c10 (e ▸ h_c3.1.1)
  have n_c10_c3 := n_c3_c10.symm
  have n_c4_c10 : c4 ≠ c10 := fun e => q_c10 (e ▸ h_c4.1.1)
  have n_c10_c4 := n_c4_c10.symm
  have n_c5_c10 : c5 ≠ c10 := fun e => q_c10 (e ▸ h_c5.1.1)
  have n_c10_c5 := n_c5_c10.symm
  have n_c6_c10 : c6 ≠ c10 := fun e => q_c10 (e ▸ h_c6.1.1)
  have n_c10_c6 := n_c6_c10.symm
  have n_c7_c10 : c7 ≠ c10 := fun e => q_c10 (e ▸ h_c7.1.1)
  have n_c10_c7 := n_c7_c10.symm
  have n_c8_c10 : c8 ≠ c10 := fun e => q_c10 (e ▸ h_c8.1.1)
  have n_c10_c8 := n_c8_c10.symm
  have n_c9_c10 : c9 ≠ c10 := fun e => q_c10 (e ▸ h_c9.1.1)
  have n_c10_c9 := n_c9_c10.symm
  have h_a := h_a.gx G24 n_a_c10
  have h_c1 := h_c1.gx G24 n_c1_c10
  have h_c2 := h_c2.gx G24 n_c2_c10
  have h_c3 := h_c3.gx G24 n_c3_c10
  have h_c4 := h_c4.gx G24 n_c4_c10
  have h_c5 := h_c5.gx G24 n_c5_c10
  have h_c6 := h_c6.gx G24 n_c6_c10
  have h_c7 := h_c7.gx G24 n_c7_c10
  have h_c8 := h_c8.gx G24 n_c8_c10
  have h_c9 := h_c9.gx G24 n_c9_c10
  have Gt24 : GX (fun z => z = a) S S24 := GX.tr Gt23 G24 (fun z hz e => absurd hz (e ▸ f_c10))
  have h_c10 : OB S24 c10 6 (fun _ => none) (fun _ => 0) := by rw [eS24]; exact ob_new
  have Nn := Nn.c q_c10 G24 h_c10.1.1
  refine V_dup (pc := 103) dX7_init_103 rfl ?_
  refine V_cIv0 (pc := 104) (jc_X7_42 dX7_init_104 rfl) rfl rfl (Nat.le_of_ble_eq_true rfl) ?_
  refine i_X6 h_c10 (fun  S25 G25   h_N  => ?_)
  have h_a := h_a.gx G25 n_a_c10
  have h_c1 := h_c1.gx G25 n_c1_c10
  have h_c2 := h_c2.gx G25 n_c2_c10
  have h_c3 := h_c3.gx G25 n_c3_c10
  have h_c4 := h_c4.gx G25 n_c4_c10
  have h_c5 := h_c5.gx G25 n_c5_c10
  have h_c6 := h_c6.gx G25 n_c6_c10
  have h_c7 := h_c7.gx G25 n_c7_c10
  have h_c8 := h_c8.gx G25 n_c8_c10
  have h_c9 := h_c9.gx G25 n_c9_c10
  have Gt25 : GX (fun z => z = a) S S25 := GX.tr Gt24 G25 (fun z hz e => absurd hz (e ▸ f_c10))
  have h_c10 := h_N
  have Nno := Nn
  have Nn := Nno.gx G25
  refine V_aas (pc := 107) (N := 10) 14 6 1 dX7_init_107 (by decide) (by decide) (by decide) rfl h_c1.1 h_c10.1 h_c1.2.1 (by decide) (by first | rfl | decide) (by decide) ?_
  obtain ⟨S26, eS26⟩ : ∃ Z, Z = sY S25 c1 (va_up (gY S25 c1) 1 (some c10)) := ⟨_, rfl⟩
  rw [← eS26]
  have G26 : GX (fun z => z = c1) S25 S26 := by rw [eS26]; exact gx_sY
  have h_a := h_a.gx G26 n_a_c1
  have h_c2 := h_c2.gx G26 n_c2_c1
  have h_c3 := h_c3.gx G26 n_c3_c1
  have h_c4 := h_c4.gx G26 n_c4_c1
  have h_c5 := h_c5.gx G26 n_c5_c1
  have h_c6 := h_c6.gx G26 n_c6_c1
  have h_c7 := h_c7.gx G26 n_c7_c1
  have h_c8 := h_c8.gx G26 n_c8_c1
  have h_c9 := h_c9.gx G26 n_c9_c1
  have h_c10 := h_c10.gx G26 n_c10_c1
  have Gt26 : GX (fun z => z = a) S S26 := GX.tr Gt25 G26 (fun z hz e => absurd hz (e ▸ f_c1))
  have Nn := Nn.gx G26
  have h_c1 : RA S26 c1 14 10 (va_up (va_up (fun _ => none) 0 (some c9)) 1 (some c10)) := by rw [eS26]; exact h_c1.w
  refine V_inc (pc := 108) (fun y => [(0, .ref a), (1, .int y)]) (w := 1) dX7_init_108 (by decide) (by decide) rfl (fun _ => rfl) (fun y108 ey108 => ?_)
  obtain rfl : y108 = nI 2 := by rw [ey108]; exact nI_1 _
  refine V_goto (pc := 111) (t := 89) dX7_init_111 (by decide) ?_
  refine V_iln (pc := 89) dX7_init_89 rfl rfl ?_
  refine V_bipush (pc := 90) (v := 10) dX7_init_90 (by decide) ?_
  refine V_cge (pc := 92) (t := 114) dX7_init_92 (by decide) (fun h => absurd h (by decide)) (fun _ => ?_)
  refine V_aln (pc := 95) dX7_init_95 rfl rfl ?_
  refine V_gr (pc := 96) 7 0 224 dX7_init_96 (FL_X7_11 rfl) rfl rfl h_a.1 ((h_a.2.1 224).trans rfl) ?_
  refine V_iln (pc := 99) dX7_init_99 rfl rfl ?_
  refine V_new (pc := 100) (jn_X7_9 dX7_init_100 rfl) (Nat.le_of_ble_eq_true rfl) (Nat.le_of_ble_eq_true rfl) (fun c11 q_c11 => ?_)
  obtain ⟨S27, eS27⟩ : ∃ Z, Z = nO S26 c11 6 := ⟨_, rfl⟩
  rw [← eS27]
  have G27 : GX (fun z => z = c11) S26 S27 := by rw [eS27]; exact gx_O q_c11 (by decide)
  have f_c11 : c11 ∉ gL S := GX.out Gt26 q_c11
  have n_a_c11 : a ≠ c11 := fun e => q_c11 (e ▸ h_a.1.1)
  have n_c11_a := n_a_c11.symm
  have n_c1_c11 : c1 ≠ c11 := fun e => q_c11 (e ▸ h_c1.1.1)
  have n_c11_c1 := n_c1_c11.symm
  have n_c2_c11 : c2 ≠ c11 := fun e => q_c11 (e ▸ h_c2.1.1)
  have n_c11_c2 := n_c2_c11.symm
  have n_c3_c11 : c3 ≠ c11 := fun e => q_c11 (e ▸ h_c3.1.1)
  have n_c11_c3 := n_c3_c11.symm
  have n_c4_c11 : c4 ≠ c11 := fun e => q_c11 (e ▸ h_c4.1.1)
  have n_c11_c4 := n_c4_c11.symm
  have n_c5_c11 : c5 ≠ c11 := fun e => q_c11 (e ▸ h_c5.1.1)
  have n_c11_c5 := n_c5_c11.symm
  have n_c6_c11 : c6 ≠ c11 := fun e => q_c11 (e ▸ h_c6.1.1)
  have n_c11_c6 := n_c6_c11.symm
  have n_c7_c11 : c7 ≠ c11 := fun e => q_c11 (e ▸ h_c7.1.1)
  have n_c11_c7 := n_c7_c11.symm
  have n_c8_c11 : c8 ≠ c11 := fun e => q_c11 (e ▸ h_c8.1.1)
  have n_c11_c8 := n_c8_c11.symm
  have n_c9_c11 : c9 ≠ c11 := fun e => q_c11 (e ▸ h_c9.1.1)
  have n_c11_c9 := n_c9_c11.symm
  have n_c10_c11 : c10 ≠ c11 := fun e => q_c11 (e ▸ h_c10.1.1)
  have n_c11_c10 := n_c10_c11.symm
  have h_a := h_a.gx G27 n_a_c11
  have h_c1 := h_c1.gx G27 n_c1_c11
  have h_c2 := h_c2.gx G27 n_c2_c11
  have h_c3 := h_c3.gx G27 n_c3_c11
  have h_c4 := h_c4.gx G27 n_c4_c11
  have h_c5 := h_c5.gx G27 n_c5_c11
  have h_c6 := h_c6.gx G27 n_c6_c11
  have h_c7 := h_c7.gx G27 n_c7_c11
  have h_c8 := h_c8.gx G27 n_c8_c11
  have h_c9 := h_c9.gx G27 n_c9_c11
  have h_c10 := h_c10.gx G27 n_c10_c11
  have Gt27 : GX (fun z => z = a) S S27 := GX.tr Gt26 G27 (fun z hz e => absurd hz (e ▸ f_c11))
  have h_c11 : OB S27 c11 6 (fun _ => none) (fun _ => 0) := by rw [eS27]; exact ob_new
  have Nn := Nn.c q_c11 G27 h_c11.1.1
  refine V_dup (pc := 103) dX7_init_103 rfl ?_
  refine V_cIv0 (pc := 104) (jc_X7_42 dX7_init_104 rfl) rfl rfl (Nat.le_of_ble_eq_true rfl) ?_
  refine i_X6 h_c11 (fun  S28 G28   h_N  => ?_)
  have h_a := h_a.gx G28 n_a_c11
  have h_c1 := h_c1.gx G28 n_c1_c11
  have h_c2 := h_c2.gx G28 n_c2_c11
  have h_c3 := h_c3.gx G28 n_c3_c11
  have h_c4 := h_c4.gx G28 n_c4_c11
  have h_c5 := h_c5.gx G28 n_c5_c11
  have h_c6 := h_c6.gx G28 n_c6_c11
  have h_c7 := h_c7.gx G28 n_c7_c11
  have h_c8 := h_c8.gx G28 n_c8_c11
  have h_c9 := h_c9.gx G28 n_c9_c11
  have h_c10 := h_c10.gx G28 n_c10_c11
  have Gt28 : GX (fun z => z = a) S S28 := GX.tr Gt27 G28 (fun z hz e => absurd hz (e ▸ f_c11))
  have h_c11 := h_N
  have Nno := Nn
  have Nn := Nno.gx G28
  refine V_aas (pc := 107) (N := 10) 14 6 2 dX7_init_107 (by decide) (by decide) (by decide) rfl h_c1.1 h_c11.1 h_c1.2.1 (by decide) (by first | rfl | decide) (by decide) ?_
  obtain ⟨S29, eS29⟩ : ∃ Z, Z = sY S28 c1 (va_up (gY S28 c1) 2 (some c11)) := ⟨_, rfl⟩
  rw [← eS29]
  have G29 : GX (fun z => z = c1) S28 S29 := by rw [eS29]; exact gx_sY
  have h_a := h_a.gx G29 n_a_c1
  have h_c2 := h_c2.gx G29 n_c2_c1
  have h_c3 := h_c3.gx G29 n_c3_c1
  have h_c4 := h_c4.gx G29 n_c4_c1
  have h_c5 := h_c5.gx G29 n_c5_c1
  have h_c6 := h_c6.gx G29 n_c6_c1
  have h_c7 := h_c7.gx G29 n_c7_c1
  have h_c8 := h_c8.gx G29 n_c8_c1
  have h_c9 := h_c9.gx G29 n_c9_c1
  have h_c10 := h_c10.gx G29 n_c10_c1
  have h_c11 := h_c11.gx G29 n_c11_c1
  have Gt29 : GX (fun z => z = a) S S29 := GX.tr Gt28 G29 (fun z hz e => absurd hz (e ▸ f_c1))
  have Nn := Nn.gx G29
  have h_c1 : RA S29 c1 14 10 (va_up (va_up (va_up (fun _ => none) 0 (some c9)) 1 (some c10)) 2 (some c11)) := by rw [eS29]; exact h_c1.w
  refine V_inc (pc := 108) (fun y => [(0, .ref a), (1, .int y)]) (w := 1) dX7_init_108 (by decide) (by decide) rfl (fun _ => rfl) (fun y108 ey108 => ?_)
  obtain rfl : y108 = nI 3 := by rw [ey108]; exact nI_1 _
  refine V_goto (pc := 111) (t := 89) dX7_init_111 (by decide) ?_
  refine V_iln (pc := 89) dX7_init_89 rfl rfl ?_
  refine V_bipush (pc := 90) (v := 10) dX7_init_90 (by decide) ?_
  refine V_cge (pc := 92) (t := 114) dX7_init_92 (by decide) (fun h => absurd h (by decide)) (fun _ => ?_)
  refine V_aln (pc := 95) dX7_init_95 rfl rfl ?_
  refine V_gr (pc := 96) 7 0 224 dX7_init_96 (FL_X7_11 rfl) rfl rfl h_a.1 ((h_a.2.1 224).trans rfl) ?_
  refine V_iln (pc := 99) dX7_init_99 rfl rfl ?_
  refine V_new (pc := 100) (jn_X7_9 dX7_init_100 rfl) (Nat.le_of_ble_eq_true rfl) (Nat.le_of_ble_eq_true rfl) (fun c12 q_c12 => ?_)
  obtain ⟨S30, eS30⟩ : ∃ Z, Z = nO S29 c12 6 := ⟨_, rfl⟩
  rw [← eS30]
  have G30 : GX (fun z => z = c12) S29 S30 := by rw [eS30]; exact gx_O q_c12 (by decide)
  have f_c12 : c12 ∉ gL S := GX.out Gt29 q_c12
  have n_a_c12 : a ≠ c12 := fun e => q_c12 (e ▸ h_a.1.1)
  have n_c12_a := n_a_c12.symm
  have n_c1_c12 : c1 ≠ c12 := fun e => q_c12 (e ▸ h_c1.1.1)
  have n_c12_c1 := n_c1_c12.symm
  have n_c2_c12 : c2 ≠ c12 := fun e => q_c12 (e ▸ h_c2.1.1)
  have n_c12_c2 := n_c2_c12.symm
  have n_c3_c12 : c3 ≠ c12 := fun e => q_c12 (e ▸ h_c3.1.1)
  have n_c12_c3 := n_c3_c12.symm
  have n_c4_c12 : c4 ≠ c12 := fun e => q_c12 (e ▸ h_c4.1.1)
  have n_c12_c4 := n_c4_c12.symm
  have n_c5_c12 : c5 ≠ c12 := fun e => q_c12 (e ▸ h_c5.1.1)
  have n_c12_c5 := n_c5_c12.symm
  have n_c6_c12 : c6 ≠ c12 := fun e => q_c12 (e ▸ h_c6.1.1)
  have n_c12_c6 := n_c6_c12.symm
  have n_c7_c12 : c7 ≠ c12 := fun e => q_c12 (e ▸ h_c7.1.1)
  have n_c12_c7 := n_c7_c12.symm
  have n_c8_c12 : c8 ≠ c12 := fun e => q_c12 (e ▸ h_c8.1.1)
  have n_c12_c8 := n_c8_c12.symm
  have n_c9_c12 : c9 ≠ c12 := fun e => q_c12 (e ▸ h_c9.1.1)
  have n_c12_c9 := n_c9_c12.symm
  have n_c10_c12 : c10 ≠ c12 := fun e => q_c12 (e ▸ h_c10.1.1)
  have n_c12_c10 := n_c10_c12.symm
  have n_c11_c12 : c11 ≠ c12 := fun e => q_c12 (e ▸ h_c11.1.1)
  have n_c12_c11 := n_c11_c12.symm
  have h_a := h_a.gx G30 n_a_c12
  have h_c1 := h_c1.gx G30 n_c1_c12
  have h_c2 := h_c2.gx G30 n_c2_c12
  have h_c3 := h_c3.gx G30 n_c3_c12
  have h_c4 := h_c4.gx G30 n_c4_c12
  have h_c5 := h_c5.gx G30 n_c5_c12
  have h_c6 := h_c6.gx G30 n_c6_c12
  have h_c7 := h_c7.gx G30 n_c7_c12
  have h_c8 := h_c8.gx G30 n_c8_c12
  have h_c9 := h_c9.gx G30 n_c9_c12
  have h_c10 := h_c10.gx G30 n_c10_c12
  have h_c11 := h_c11.gx G30 n_c11_c12
  have Gt30 : GX (fun z => z = a) S S30 := GX.tr Gt29 G30 (fun z hz e => absurd hz (e ▸ f_c12))
  have h_c12 : OB S30 c12 6 (fun _ => none) (fun _ => 0) := by rw [eS30]; exact ob_new
  have Nn := Nn.c q_c12 G30 h_c12.1.1
  refine V_dup (pc := 103) dX7_init_103 rfl ?_
  refine V_cIv0 (pc := 104) (jc_X7_42 dX7_init_104 rfl) rfl rfl (Nat.le_of_ble_eq_true rfl) ?_
  refine i_X6 h_c12 (fun  S31 G31   h_N  => ?_)
  have h_a := h_a.gx G31 n_a_c12
  have h_c1 := h_c1.gx G31 n_c1_c12
  have h_c2 := h_c2.gx G31 n_c2_c12
  have h_c3 := h_c3.gx G31 n_c3_c12
  have h_c4 := h_c4.gx G31 n_c4_c12
  have h_c5 := h_c5.gx G31 n_c5_c12
  have h_c6 := h_c6.gx G31 n_c6_c12
  have h_c7 := h_c7.gx G31 n_c7_c12
  have h_c8 := h_c8.gx G31 n_c8_c12
  have h_c9 := h_c9.gx G31 n_c9_c12
  have h_c10 := h_c10.gx G31 n_c10_c12
  have h_c11 := h_c11.gx G31 n_c11_c12
  have Gt31 : GX (fun z => z = a) S S31 := GX.tr Gt30 G31 (fun z hz e => absurd hz (e ▸ f_c12))
  have h_c12 := h_N
  have Nno := Nn
  have Nn := Nno.gx G31
  refine V_aas (pc := 107) (N := 10) 14 6 3 dX7_init_107 (by decide) (by decide) (by decide) rfl h_c1.1 h_c12.1 h_c1.2.1 (by decide) (by first | rfl | decide) (by decide) ?_
  obtain ⟨S32, eS32⟩ : ∃ Z, Z = sY S31 c1 (va_up (gY S31 c1) 3 (some c12)) := ⟨_, rfl⟩
  rw [← eS32]
  have G32 : GX (fun z => z = c1) S31 S32 := by rw [eS32]; exact gx_sY
  have h_a := h_a.gx G32 n_a_c1
  have h_c2 := h_c2.gx G32 n_c2_c1
  have h_c3 := h_c3.gx G32 n_c3_c1
  have h_c4 := h_c4.gx G32 n_c4_c1
  have h_c5 := h_c5.gx G32 n_c5_c1
  have h_c6 := h_c6.gx G32 n_c6_c1
  have h_c7 := h_c7.gx G32 n_c7_c1
  have h_c8 := h_c8.gx G32 n_c8_c1
  have h_c9 := h_c9.gx G32 n_c9_c1
  have h_c10 := h_c10.gx G32 n_c10_c1
  have h_c11 := h_c11.gx G32 n_c11_c1
  have h_c12 := h_c12.gx G32 n_c12_c1
  have Gt32 : GX (fun z => z = a) S S32 := GX.tr Gt31 G32 (fun z hz e => absurd hz (e ▸ f_c1))
  have Nn := Nn.gx G32
  have h_c1 : RA S32 c1 14 10 (va_up (va_up (va_up (va_up (fun _ => none) 0 (some c9)) 1 (some c10)) 2 (some c11)) 3 (some c12)) := by rw [eS32]; exact h_c1.w
  refine V_inc (pc := 108) (fun y => [(0, .ref a), (1, .int y)]) (w := 1) dX7_init_108 (by decide) (by decide) rfl (fun _ => rfl) (fun y108 ey108 => ?_)
  obtain rfl : y108 = nI 4 := by rw [ey108]; exact nI_1 _
  refine V_goto (pc := 111) (t := 89) dX7_init_111 (by decide) ?_
  refine V_iln (pc := 89) dX7_init_89 rfl rfl ?_
  refine V_bipush (pc := 90) (v := 10) dX7_init_90 (by decide) ?_
  refine V_cge (pc := 92) (t := 114) dX7_init_92 (by decide) (fun h => absurd h (by decide)) (fun _ => ?_)
  refine V_aln (pc := 95) dX7_init_95 rfl rfl ?_
  refine V_gr (pc := 96) 7 0 224 dX7_init_96 (FL_X7_11 rfl) rfl rfl h_a.1 ((h_a.2.1 224).trans rfl) ?_
  refine V_iln (pc := 99) dX7_init_99 rfl rfl ?_
  refine V_new (pc := 100) (jn_X7_9 dX7_init_100 rfl) (Nat.le_of_ble_eq_true rfl) (Nat.le_of_ble_eq_true rfl) (fun c13 q_c13 => ?_)
  obtain ⟨S33, eS33⟩ : ∃ Z, Z = nO S32 c13 6 := ⟨_, rfl⟩
  rw [← eS33]
  have G33 : GX (fun z => z = c13) S32 S33 := by rw [eS33]; exact gx_O q_c13 (by decide)
  have f_c13 : c13 ∉ gL S := GX.out Gt32 q_c13
  have n_a_c13 : a ≠ c13 := fun e => q_c13 (e ▸ h_a.1.1)
  have n_c13_a := n_a_c13.symm
  have n_c1_c13 : c1 ≠ c13 := fun e => q_c13 (e ▸ h_c1.1.1)
  have n_c13_c1 := n_c1_c13.symm
  have n_c2_c13 : c2 ≠ c13 := fun e => q_c13 (e ▸ h_c2.1.1)
  have n_c13_c2 := n_c2_c13.symm
  have n_c3_c13 : c3 ≠ c13 := fun e => q_c13 (e ▸ h_c3.1.1)
  have n_c13_c3 := n_c3_c13.symm
  have n_c4_c13 : c4 ≠ c13 := fun e => q_c13 (e ▸ h_c4.1.1)
  have n_c13_c4 := n_c4_c13.symm
  have n_c5_c13 : c5 ≠ c13 := fun e => q_c13 (e ▸ h_c5.1.1)
  have n_c13_c5 := n_c5_c13.symm
  have n_c6_c13 : c6 ≠ c13 := fun e => q_c13 (e ▸ h_c6.1.1)
  have n_c13_c6 := n_c6_c13.symm
  have n_c7_c13 : c7 ≠ c13 := fun e => q_c13 (e ▸ h_c7.1.1)
  have n_c13_c7 := n_c7_c13.symm
  have n_c8_c13 : c8 ≠ c13 := fun e => q_c13 (e ▸ h_c8.1.1)
  have n_c13_c8 := n_c8_c13.symm
  have n_c9_c13 : c9 ≠ c13 := fun e => q_c13 (e ▸ h_c9.1.1)
  have n_c13_c9 := n_c9_c13.symm
  have n_c10_c13 : c10 ≠ c13 := fun e => q_c13 (e ▸ h_c10.1.1)
  have n_c13_c10 := n_c10_c13.symm
  have n_c11_c13 : c11 ≠ c13 := fun e => q_c13 (e ▸ h_c11.1.1)
  have n_c13_c11 := n_c11_c13.symm
  have n_c12_c13 : c12 ≠ c13 := fun e => q_c13 (e ▸ h_c12.1.1)
  have n_c13_c12 := n_c12_c13.symm
  have h_a := h_a.gx G33 n_a_c13
  have h_c1 := h_c1.gx G33 n_c1_c13
  have h_c2 := h_c2.gx G33 n_c2_c13
  have h_c3 := h_c3.gx G33 n_c3_c13
  have h_c4 := h_c4.gx G33 n_c4_c13
  have h_c5 := h_c5.gx G33 n_c5_c13
  have h_c6 := h_c6.gx G33 n_c6_c13
  have h_c7 := h_c7.gx G33 n_c7_c13
  have h_c8 := h_c8.gx G33 n_c8_c13
  have h_c9 := h_c9.gx G33 n_c9_c13
  have h_c10 := h_c10.gx G33 n_c10_c13
  have h_c11 := h_c11.gx G33 n_c11_c13
  have h_c12 := h_c12.gx G33 n_c12_c13
  have Gt33 : GX (fun z => z = a) S S33 := GX.tr Gt32 G33 (fun z hz e => absurd hz (e ▸ f_c13))
  have h_c13 : OB S33 c13 6 (fun _ => none) (fun _ => 0) := by rw [eS33]; exact ob_new
  have Nn := Nn.c q_c13 G33 h_c13.1.1
  refine V_dup (pc := 103) dX7_init_103 rfl ?_
  refine V_cIv0 (pc := 104) (jc_X7_42 dX7_init_104 rfl) rfl rfl (Nat.le_of_ble_eq_true rfl) ?_
  refine i_X6 h_c13 (fun  S34 G34   h_N  => ?_)
  have h_a := h_a.gx G34 n_a_c13
  have h_c1 := h_c1.gx G34 n_c1_c13
  have h_c2 := h_c2.gx G34 n_c2_c13
  have h_c3 := h_c3.gx G34 n_c3_c13
  have h_c4 := h_c4.gx G34 n_c4_c13
  have h_c5 := h_c5.gx G34 n_c5_c13
  have h_c6 := h_c6.gx G34 n_c6_c13
  have h_c7 := h_c7.gx G34 n_c7_c13
  have h_c8 := h_c8.gx G34 n_c8_c13
  have h_c9 := h_c9.gx G34 n_c9_c13
  have h_c10 := h_c10.gx G34 n_c10_c13
  have h_c11 := h_c11.gx G34 n_c11_c13
  have h_c12 := h_c12.gx G34 n_c12_c13
  have Gt34 : GX (fun z => z = a) S S34 := GX.tr Gt33 G34 (fun z hz e => absurd hz (e ▸ f_c13))
  have h_c13 := h_N
  have Nno := Nn
  have Nn := Nno.gx G34
  refine V_aas (pc := 107) (N := 10) 14 6 4 dX7_init_107 (by decide) (by decide) (by decide) rfl h_c1.1 h_c13.1 h_c1.2.1 (by decide) (by first | rfl | decide) (by decide) ?_
  obtain ⟨S35, eS35⟩ : ∃ Z, Z = sY S34 c1 (va_up (gY S34 c1) 4 (some c13)) := ⟨_, rfl⟩
  rw [← eS35]
  have G35 : GX (fun z => z = c1) S34 S35 := by rw [eS35]; exact gx_sY
  have h_a := h_a.gx G35 n_a_c1
  have h_c2 := h_c2.gx G35 n_c2_c1
  have h_c3 := h_c3.gx G35 n_c3_c1
  have h_c4 := h_c4.gx G35 n_c4_c1
  have h_c5 := h_c5.gx G35 n_c5_c1
  have h_c6 := h_c6.gx G35 n_c6_c1
  have h_c7 := h_c7.gx G35 n_c7_c1
  have h_c8 := h_c8.gx G35 n_c8_c1
  have h_c9 := h_c9.gx G35 n_c9_c1
  have h_c10 := h_c10.gx G35 n_c10_c1
  have h_c11 := h_c11.gx G35 n_c11_c1
  have h_c12 := h_c12.gx G35 n_c12_c1
  have h_c13 := h_c13.gx G35 n_c13_c1
  have Gt35 : GX (fun z => z = a) S S35 := GX.tr Gt34 G35 (fun z hz e => absurd hz (e ▸ f_c1))
  have Nn := Nn.gx G35
  have h_c1 : RA S35 c1 14 10 (va_up (va_up (va_up (va_up (va_up (fun _ => none) 0 (some c9)) 1 (some c10)) 2 (some c11)) 3 (some c12)) 4 (some c13)) := by rw [eS35]; exact h_c1.w
  refine V_inc (pc := 108) (fun y => [(0, .ref a), (1, .int y)]) (w := 1) dX7_init_108 (by decide) (by decide) rfl (fun _ => rfl) (fun y108 ey108 => ?_)
  obtain rfl : y108 = nI 5 := by rw [ey108]; exact nI_1 _
  refine V_goto (pc := 111) (t := 89) dX7_init_111 (by decide) ?_
  refine V_iln (pc := 89) dX7_init_89 rfl rfl ?_
  refine V_bipush (pc := 90) (v := 10) dX7_init_90 (by decide) ?_
  refine V_cge (pc := 92) (t := 114) dX7_init_92 (by decide) (fun h => absurd h (by decide)) (fun _ => ?_)
  refine V_aln (pc := 95) dX7_init_95 rfl rfl ?_
  refine V_gr (pc := 96) 7 0 224 dX7_init_96 (FL_X7_11 rfl) rfl rfl h_a.1 ((h_a.2.1 224).trans rfl) ?_
  refine V_iln (pc := 99) dX7_init_99 rfl rfl ?_
  refine V_new (pc := 100) (jn_X7_9 dX7_init_100 rfl) (Nat.le_of_ble_eq_true rfl) (Nat.le_of_ble_eq_true rfl) (fun c14 q_c14 => ?_)
  obtain ⟨S36, eS36⟩ : ∃ Z, Z = nO S35 c14 6 := ⟨_, rfl⟩
  rw [← eS36]
  have G36 : GX (fun z => z = c14) S35 S36 := by rw [eS36]; exact gx_O q_c14 (by decide)
  have f_c14 : c14 ∉ gL S := GX.out Gt35 q_c14
  have n_a_c14 : a ≠ c14 := fun e => q_c14 (e ▸ h_a.1.1)
  have n_c14_a := n_a_c14.symm
  have n_c1_c14 : c1 ≠ c14 := fun e => q_c14 (e ▸ h_c1.1.1)
  have n_c14_c1 := n_c1_c14.symm
  have n_c2_c14 : c2 ≠ c14 := fun e => q_c14 (e ▸ h_c2.1.1)
  have n_c14_c2 := n_c2_c14.symm
  have n_c3_c14 : c3 ≠ c14 := fun e => q_c14 (e ▸ h_c3.1.1)
  have n_c14_c3 := n_c3_c14.symm
  have n_c4_c14 : c4 ≠ c14 := fun e => q_c14 (e ▸ h_c4.1.1)
  have n_c14_c4 := n_c4_c14.symm
  have n_c5_c14 : c5 ≠ c14 := fun e => q_c14 (e ▸ h_c5.1.1)
  have n_c14_c5 := n_c5_c14.symm
  have n_c6_c14 : c6 ≠ c14 := fun e => q_c14 (e ▸ h_c6.1.1)
  have n_c14_c6 := n_c6_c14.symm
  have n_c7_c14 : c7 ≠ c14 := fun e => q_c14 (e ▸ h_c7.1.1)
  have n_c14_c7 := n_c7_c14.symm
  have n_c8_c14 : c8 ≠ c14 := fun e => q_c14 (e ▸ h_c8.1.1)
  have n_c14_c8 := n_c8_c14.symm
  have n_c9_c14 : c9 ≠ c14 := fun e => q_c14 (e ▸ h_c9.1.1)
  have n_c14_c9 := n_c9_c14.symm
  have n_c10_c14 : c10 ≠ c14 := fun e => q_c14 (e ▸ h_c10.1.1)
  have n_c14_c10 := n_c10_c14.symm
  have n_c11_c14 : c11 ≠ c14 := fun e => q_c14 (e ▸ h_c11.1.1)
  have n_c14_c11 := n_c11_c14.symm
  have n_c12_c14 : c12 ≠ c14 := fun e => q_c14 (e ▸ h_c12.1.1)
  have n_c14_c12 := n_c12_c14.symm
  have n_c13_c14 : c13 ≠ c14 := fun e => q_c14 (e ▸ h_c13.1.1)
  have n_c14_c13 := n_c13_c14.symm
  have h_a := h_a.gx G36 n_a_c14
  have h_c1 := h_c1.gx G36 n_c1_c14
  have h_c2 := h_c2.gx G36 n_c2_c14
  have h_c3 := h_c3.gx G36 n_c3_c14
  have h_c4 := h_c4.gx G36 n_c4_c14
  have h_c5 := h_c5.gx G36 n_c5_c14
  have h_c6 := h_c6.gx G36 n_c6_c14
  have h_c7 := h_c7.gx G36 n_c7_c14
  have h_c8 := h_c8.gx G36 n_c8_c14
  have h_c9 := h_c9.gx G36 n_c9_c14
  have h_c10 := h_c10.gx G36 n_c10_c14
  have h_c11 := h_c11.gx G36 n_c11_c14
  have h_c12 := h_c12.gx G36 n_c12_c14
  have h_c13 := h_c13.gx G36 n_c13_c14
  have Gt36 : GX (fun z => z = a) S S36 := GX.tr Gt35 G36 (fun z hz e => absurd hz (e ▸ f_c14))
  have h_c14 : OB S36 c14 6 (fun _ => none) (fun _ => 0) := by rw [eS36]; exact ob_new
  have Nn := Nn.c q_c14 G36 h_c14.1.1
  refine V_dup (pc := 103) dX7_init_103 rfl ?_
  refine V_cIv0 (pc := 104) (jc_X7_42 dX7_init_104 rfl) rfl rfl (Nat.le_of_ble_eq_true rfl) ?_
  refine i_X6 h_c14 (fun  S37 G37   h_N  => ?_)
  have h_a := h_a.gx G37 n_a_c14
  have h_c1 := h_c1.gx G37 n_c1_c14
  have h_c2 := h_c2.gx G37 n_c2_c14
  have h_c3 := h_c3.gx G37 n_c3_c14
  have h_c4 := h_c4.gx G37 n_c4_c14
  have h_c5 := h_c5.gx G37 n_c5_c14
  have h_c6 := h_c6.gx G37 n_c6_c14
  have h_c7 := h_c7.gx G37 n_c7_c14
  have h_c8 := h_c8.gx G37 n_c8_c14
  have h_c9 := h_c9.gx G37 n_c9_c14
  have h_c10 := h_c10.gx G37 n_c10_c14
  have h_c11 := h_c11.gx G37 n_c11_c14
  have h_c12 := h_c12.gx G37 n_c12_c14
  have h_c13 := h_c13.gx G37 n_c13_c14
  have Gt37 : GX (fun z => z = a) S S37 := GX.tr Gt36 G37 (fun z hz e => absurd hz (e ▸ f_c14))
  have h_c14 := h_N
  have Nno := Nn
  have Nn := Nno.gx G37
  refine V_aas (pc := 107) (N := 10) 14 6 5 dX7_init_107 (by decide) (by decide) (by decide) rfl h_c1.1 h_c14.1 h_c1.2.1 (by decide) (by first | rfl | decide) (by decide) ?_
  obtain ⟨S38, eS38⟩ : ∃ Z, Z = sY S37 c1 (va_up (gY S37 c1) 5 (some c14)) := ⟨_, rfl⟩
  rw [← eS38]
  have G38 : GX (fun z => z = c1) S37 S38 := by rw [eS38]; exact gx_sY
  have h_a := h_a.gx G38 n_a_c1
  have h_c2 := h_c2.gx G38 n_c2_c1
  have h_c3 := h_c3.gx G38 n_c3_c1
  have h_c4 := h_c4.gx G38 n_c4_c1
  have h_c5 := h_c5.gx G38 n_c5_c1
  have h_c6 := h_c6.gx G38 n_c6_c1
  have h_c7 := h_c7.gx G38 n_c7_c1
  have h_c8 := h_c8.gx G38 n_c8_c1
  have h_c9 := h_c9.gx G38 n_c9_c1
  have h_c10 := h_c10.gx G38 n_c10_c1
  have h_c11 := h_c11.gx G38 n_c11_c1
  have h_c12 := h_c12.gx G38 n_c12_c1
  have h_c13 := h_c13.gx G38 n_c13_c1
  have h_c14 := h_c14.gx G38 n_c14_c1
  have Gt38 : GX (fun z => z = a) S S38 := GX.tr Gt37 G38 (fun z hz e => absurd hz (e ▸ f_c1))
  have Nn := Nn.gx G38
  have h_c1 : RA S38 c1 14 10 (va_up (va_up (va_up (va_up (va_up (va_up (fun _ => none) 0 (some c9)) 1 (some c10)) 2 (some c11)) 3 (some c12)) 4 (some c13)) 5 (some c14)) := by rw [eS38]; exact h_c1.w
  refine V_inc (pc := 108) (fun y => [(0, .ref a), (1, .int y)]) (w := 1) dX7_init_108 (by decide) (by decide) rfl (fun _ => rfl) (fun y108 ey108 => ?_)
  obtain rfl : y108 = nI 6 := by rw [ey108]; exact nI_1 _
  refine V_goto (pc := 111) (t := 89) dX7_init_111 (by decide) ?_
  refine V_iln (pc := 89) dX7_init_89 rfl rfl ?_
  refine V_bipush (pc := 90) (v := 10) dX7_init_90 (by decide) ?_
  refine V_cge (pc := 92) (t := 114) dX7_init_92 (by decide) (fun h => absurd h (by decide)) (fun _ => ?_)
  refine V_aln (pc := 95) dX7_init_95 rfl rfl ?_
  refine V_gr (pc := 96) 7 0 224 dX7_init_96 (FL_X7_11 rfl) rfl rfl h_a.1 ((h_a.2.1 224).trans rfl) ?_
  refine V_iln (pc := 99) dX7_init_99 rfl rfl ?_
  refine V_new (pc := 100) (jn_X7_9 dX7_init_100 rfl) (Nat.le_of_ble_eq_true rfl) (Nat.le_of_ble_eq_true rfl) (fun c15 q_c15 => ?_)
  obtain ⟨S39, eS39⟩ : ∃ Z, Z = nO S38 c15 6 := ⟨_, rfl⟩
  rw [← eS39]
  have G39 : GX (fun z => z = c15) S38 S39 := by rw [eS39]; exact gx_O q_c15 (by decide)
  have f_c15 : c15 ∉ gL S := GX.out Gt38 q_c15
  have n_a_c15 : a ≠ c15 := fun e => q_c15 (e ▸ h_a.1.1)
  have n_c15_a := n_a_c15.symm
  have n_c1_c15 : c1 ≠ c15 := fun e => q_c15 (e ▸ h_c1.1.1)
  have n_c15_c1 := n_c1_c15.symm
  have n_c2_c15 : c2 ≠ c15 := fun e => q_c15 (e ▸ h_c2.1.1)
  have n_c15_c2 := n_c2_c15.symm
  have n_c3_c15 : c3 ≠ c15 := fun e => q_c15 (e ▸ h_c3.1.1)
  have n_c15_c3 := n_c3_c15.symm
  have n_c4_c15 : c4 ≠ c15 := fun e => q_c15 (e ▸ h_c4.1.1)
  have n_c15_c4 := n_c4_c15.symm
  have n_c5_c15 : c5 ≠ c15 := fun e => q_c15 (e ▸ h_c5.1.1)
  have n_c15_c5 := n_c5_c15.symm
  have n_c6_c15 : c6 ≠ c15 := fun e => q_c15 (e ▸ h_c6.1.1)
  have n_c15_c6 := n_c6_c15.symm
  have n_c7_c15 : c7 ≠ c15 := fun e => q_c15 (e ▸ h_c7.1.1)
  have n_c15_c7 := n_c7_c15.symm
  have n_c8_c15 : c8 ≠ c15 := fun e => q_c15 (e ▸ h_c8.1.1)
  have n_c15_c8 := n_c8_c15.symm
  have n_c9_c15 : c9 ≠ c15 := fun e => q_c15 (e ▸ h_c9.1.1)
  have n_c15_c9 := n_c9_c15.symm
  have n_c10_c15 : c10 ≠ c15 := fun e => q_c15 (e ▸ h_c10.1.1)
  have n_c15_c10 := n_c10_c15.symm
  have n_c11_c15 : c11 ≠ c15 := fun e => q_c15 (e ▸ h_c11.1.1)
  have n_c15_c11 := n_c11_c15.symm
  have n_c12_c15 : c12 ≠ c15 := fun e => q_c15 (e ▸ h_c12.1.1)
  have n_c15_c12 := n_c12_c15.symm
  have n_c13_c15 : c13 ≠ c15 := fun e => q_c15 (e ▸ h_c13.1.1)
  have n_c15_c13 := n_c13_c15.symm
  have n_c14_c15 : c14 ≠ c15 := fun e => q_c15 (e ▸ h_c14.1.1)
  have n_c15_c14 := n_c14_c15.symm
  have h_a := h_a.gx G39 n_a_c15
  have h_c1 := h_c1.gx G39 n_c1_c15
  have h_c2 := h_c2.gx G39 n_c2_c15
  have h_c3 := h_c3.gx G39 n_c3_c15
  have h_c4 := h_c4.gx G39 n_c4_c15
  have h_c5 := h_c5.gx G39 n_c5_c15
  have h_c6 := h_c6.gx G39 n_c6_c15
  have h_c7 := h_c7.gx G39 n_c7_c15
  have h_c8 := h_c8.gx G39 n_c8_c15
  have h_c9 := h_c9.gx G39 n_c9_c15
  have h_c10 := h_c10.gx G39 n_c10_c15
  have h_c11 := h_c11.gx G39 n_c11_c15
  have h_c12 := h_c12.gx G39 n_c12_c15
  have h_c13 := h_c13.gx G39 n_c13_c15
  have h_c14 := h_c14.gx G39 n_c14_c15
  have Gt39 : GX (fun z => z = a) S S39 := GX.tr Gt38 G39 (fun z hz e => absurd hz (e ▸ f_c15))
  have h_c15 : OB S39 c15 6 (fun _ => none) (fun _ => 0) := by rw [eS39]; exact ob_new
  have Nn := Nn.c q_c15 G39 h_c15.1.1
  refine V_dup (pc := 103) dX7_init_103 rfl ?_
  refine V_cIv0 (pc := 104) (jc_X7_42 dX7_init_104 rfl) rfl rfl (Nat.le_of_ble_eq_true rfl) ?_
  refine i_X6 h_c15 (fun  S40 G40   h_N  => ?_)
  have h_a := h_a.gx G40 n_a_c15
  have h_c1 := h_c1.gx G40 n_c1_c15
  have h_c2 := h_c2.gx G40 n_c2_c15
  have h_c3 := h_c3.gx G40 n_c3_c15
  have h_c4 := h_c4.gx G40 n_c4_c15
  have h_c5 := h_c5.gx G40 n_c5_c15
  have h_c6 := h_c6.gx G40 n_c6_c15
  have h_c7 := h_c7.gx G40 n_c7_c15
  have h_c8 := h_c8.gx G40 n_c8_c15
  have h_c9 := h_c9.gx G40 n_c9_c15
  have h_c10 := h_c10.gx G40 n_c10_c15
  have h_c11 := h_c11.gx G40 n_c11_c15
  have h_c12 := h_c12.gx G40 n_c12_c15
  have h_c13 := h_c13.gx G40 n_c13_c15
  have h_c14 := h_c14.gx G40 n_c14_c15
  have Gt40 : GX (fun z => z = a) S S40 := GX.tr Gt39 G40 (fun z hz e => absurd hz (e ▸ f_c15))
  have h_c15 := h_N
  have Nno := Nn
  have Nn := Nno.gx G40
  refine V_aas (pc := 107) (N := 10) 14 6 6 dX7_init_107 (by decide) (by decide) (by decide) rfl h_c1.1 h_c15.1 h_c1.2.1 (by decide) (by first | rfl | decide) (by decide) ?_
  obtain ⟨S41, eS41⟩ : ∃ Z, Z = sY S40 c1 (va_up (gY S40 c1) 6 (some c15)) := ⟨_, rfl⟩
  rw [← eS41]
  have G41 : GX (fun z => z = c1) S40 S41 := by rw [eS41]; exact gx_sY
  have h_a := h_a.gx G41 n_a_c1
  have h_c2 := h_c2.gx G41 n_c2_c1
  have h_c3 := h_c3.gx G41 n_c3_c1
  have h_c4 := h_c4.gx G41 n_c4_c1
  have h_c5 := h_c5.gx G41 n_c5_c1
  have h_c6 := h_c6.gx G41 n_c6_c1
  have h_c7 := h_c7.gx G41 n_c7_c1
  have h_c8 := h_c8.gx G41 n_c8_c1
  have h_c9 := h_c9.gx G41 n_c9_c1
  have h_c10 := h_c10.gx G41 n_c10_c1
  have h_c11 := h_c11.gx G41 n_c11_c1
  have h_c12 := h_c12.gx G41 n_c12_c1
  have h_c13 := h_c13.gx G41 n_c13_c1
  have h_c14 := h_c14.gx G41 n_c14_c1
  have h_c15 := h_c15.gx G41 n_c15_c1
  have Gt41 : GX (fun z => z = a) S S41 := GX.tr Gt40 G41 (fun z hz e => absurd hz (e ▸ f_c1))
  have Nn := Nn.gx G41
  have h_c1 : RA S41 c1 14 10 (va_up (va_up (va_up (va_up (va_up (va_up (va_up (fun _ => none) 0 (some c9)) 1 (some c10)) 2 (some c11)) 3 (some c12)) 4 (some c13)) 5 (some c14)) 6 (some c15)) := by rw [eS41]; exact h_c1.w
  refine V_inc (pc := 108) (fun y => [(0, .ref a), (1, .int y)]) (w := 1) dX7_init_108 (by decide) (by decide) rfl (fun _ => rfl) (fun y108 ey108 => ?_)
  obtain rfl : y108 = nI 7 := by rw [ey108]; exact nI_1 _
  refine V_goto (pc := 111) (t := 89) dX7_init_111 (by decide) ?_
  refine V_iln (pc := 89) dX7_init_89 rfl rfl ?_
  refine V_bipush (pc := 90) (v := 10) dX7_init_90 (by decide) ?_
  refine V_cge (pc := 92) (t := 114) dX7_init_92 (by decide) (fun h => absurd h (by decide)) (fun _ => ?_)
  refine V_aln (pc := 95) dX7_init_95 rfl rfl ?_
  refine V_gr (pc := 96) 7 0 224 dX7_init_96 (FL_X7_11 rfl) rfl rfl h_a.1 ((h_a.2.1 224).trans rfl) ?_
  refine V_iln (pc := 99) dX7_init_99 rfl rfl ?_
  refine V_new (pc := 100) (jn_X7_9 dX7_init_100 rfl) (Nat.le_of_ble_eq_true rfl) (Nat.le_of_ble_eq_true rfl) (fun c16 q_c16 => ?_)
  obtain ⟨S42, eS42⟩ : ∃ Z, Z = nO S41 c16 6 := ⟨_, rfl⟩
  rw [← eS42]
  have G42 : GX (fun z => z = c16) S41 S42 := by rw [eS42]; exact gx_O q_c16 (by decide)
  have f_c16 : c16 ∉ gL S := GX.out Gt41 q_c16
  have n_a_c16 : a ≠ c16 := fun e => q_c16 (e ▸ h_a.1.1)
  have n_c16_a := n_a_c16.symm
  have n_c1_c16 : c1 ≠ c16 := fun e => q_c16 (e ▸ h_c1.1.1)
  have n_c16_c1 := n_c1_c16.symm
  have n_c2_c16 : c2 ≠ c16 := fun e => q_c16 (e ▸ h_c2.1.1)
  have n_c16_c2 := n_c2_c16.symm
  have n_c3_c16 : c3 ≠ c16 := fun e => q_c16 (e ▸ h_c3.1.1)
  have n_c16_c3 := n_c3_c16.symm
  have n_c4_c16 : c4 ≠ c16 := fun e => q_c16 (e ▸ h_c4.1.1)
  have n_c16_c4 := n_c4_c16.symm
  have n_c5_c16 : c5 ≠ c16 := fun e => q_c16 (e ▸ h_c5.1.1)
  have n_c16_c5 := n_c5_c16.symm
  have n_c6_c16 : c6 ≠ c16 := fun e => q_c16 (e ▸ h_c6.1.1)
  have n_c16_c6 := n_c6_c16.symm
  have n_c7_c16 : c7 ≠ c16 := fun e => q_c16 (e ▸ h_c7.1.1)
  have n_c16_c7 := n_c7_c16.symm
  have n_c8_c16 : c8 ≠ c16 := fun e => q_c16 (e ▸ h_c8.1.1)
  have n_c16_c8 := n_c8_c16.symm
  have n_c9_c16 : c9 ≠ c16 := fun e => q_c16 (e ▸ h_c9.1.1)
  have n_c16_c9 := n_c9_c16.symm
  have n_c10_c16 : c10 ≠ c16 := fun e => q_c16 (e ▸ h_c10.1.1)
  have n_c16_c10 := n_c10_c16.symm
  have n_c11_c16 : c11 ≠ c16 := fun e => q_c16 (e ▸ h_c11.1.1)
  have n_c16_c11 := n_c11_c16.symm
  have n_c12_c16 : c12 ≠ c16 := fun e => q_c16 (e ▸ h_c12.1.1)
  have n_c16_c12 := n_c12_c16.symm
  have n_c13_c16 : c13 ≠ c16 := fun e => q_c16 (e ▸ h_c13.1.1)
  have n_c16_c13 := n_c13_c16.symm
  have n_c14_c16 : c14 ≠ c16 := fun e => q_c16 (e ▸ h_c14.1.1)
  have n_c16_c14 := n_c14_c16.symm
  have n_c15_c16 : c15 ≠ c16 := fun e => q_c16 (e ▸ h_c15.1.1)
  have n_c16_c15 := n_c15_c16.symm
  have h_a := h_a.gx G42 n_a_c16
  have h_c1 := h_c1.gx G42 n_c1_c16
  have h_c2 := h_c2.gx G42 n_c2_c16
  have h_c3 := h_c3.gx G42 n_c3_c16
  have h_c4 := h_c4.gx G42 n_c4_c16
  have h_c5 := h_c5.gx G42 n_c5_c16
  have h_c6 := h_c6.gx G42 n_c6_c16
  have h_c7 := h_c7.gx G42 n_c7_c16
  have h_c8 := h_c8.gx G42 n_c8_c16
  have h_c9 := h_c9.gx G42 n_c9_c16
  have h_c10 := h_c10.gx G42 n_c10_c16
  have h_c11 := h_c11.gx G42 n_c11_c16
  have h_c12 := h_c12.gx G42 n_c12_c16
  have h_c13 := h_c13.gx G42 n_c13_c16
  have h_c14 := h_c14.gx G42 n_c14_c16
  have h_c15 := h_c15.gx G42 n_c15_c16
  have Gt42 : GX (fun z => z = a) S S42 := GX.tr Gt41 G42 (fun z hz e => absurd hz (e ▸ f_c16))
  have h_c16 : OB S42 c16 6 (fun _ => none) (fun _ => 0) := by rw [eS42]; exact ob_new
  have Nn := Nn.c q_c16 G42 h_c16.1.1
  refine V_dup (pc := 103) dX7_init_103 rfl ?_
  refine V_cIv0 (pc := 104) (jc_X7_42 dX7_init_104 rfl) rfl rfl (Nat.le_of_ble_eq_true rfl) ?_
  refine i_X6 h_c16 (fun  S43 G43   h_N  => ?_)
  have h_a := h_a.gx G43 n_a_c16
  have h_c1 := h_c1.gx G43 n_c1_c16
  have h_c2 := h_c2.gx G43 n_c2_c16
  have h_c3 := h_c3.gx G43 n_c3_c16
  have h_c4 := h_c4.gx G43 n_c4_c16
  have h_c5 := h_c5.gx G43 n_c5_c16
  have h_c6 := h_c6.gx G43 n_c6_c16
  have h_c7 := h_c7.gx G43 n_c7_c16
  have h_c8 := h_c8.gx G43 n_c8_c16
  have h_c9 := h_c9.gx G43 n_c9_c16
  have h_c10 := h_c10.gx G43 n_c10_c16
  have h_c11 := h_c11.gx G43 n_c11_c16
  have h_c12 := h_c12.gx G43 n_c12_c16
  have h_c13 := h_c13.gx G43 n_c13_c16
  have h_c14 := h_c14.gx G43 n_c14_c16
  have h_c15 := h_c15.gx G43 n_c15_c16
  have Gt43 : GX (fun z => z = a) S S43 := GX.tr Gt42 G43 (fun z hz e => absurd hz (e ▸ f_c16))
  have h_c16 := h_N
  have Nno := Nn
  have Nn := Nno.gx G43
  refine V_aas (pc := 107) (N := 10) 14 6 7 dX7_init_107 (by decide) (by decide) (by decide) rfl h_c1.1 h_c16.1 h_c1.2.1 (by decide) (by first | rfl | decide) (by decide) ?_
  obtain ⟨S44, eS44⟩ : ∃ Z, Z = sY S43 c1 (va_up (gY S43 c1) 7 (some c16)) := ⟨_, rfl⟩
  rw [← eS44]
  have G44 : GX (fun z => z = c1) S43 S44 := by rw [eS44]; exact gx_sY
  have h_a := h_a.gx G44 n_a_c1
  have h_c2 := h_c2.gx G44 n_c2_c1
  have h_c3 := h_c3.gx G44 n_c3_c1
  have h_c4 := h_c4.gx G44 n_c4_c1
  have h_c5 := h_c5.gx G44 n_c5_c1
  have h_c6 := h_c6.gx G44 n_c6_c1
  have h_c7 := h_c7.gx G44 n_c7_c1
  have h_c8 := h_c8.gx G44 n_c8_c1
  have h_c9 := h_c9.gx G44 n_c9_c1
  have h_c10 := h_c10.gx G44 n_c10_c1
  have h_c11 := h_c11.gx G44 n_c11_c1
  have h_c12 := h_c12.gx G44 n_c12_c1
  have h_c13 := h_c13.gx G44 n_c13_c1
  have h_c14 := h_c14.gx G44 n_c14_c1
  have h_c15 := h_c15.gx G44 n_c15_c1
  have h_c16 := h_c16.gx G44 n_c16_c1
  have Gt44 : GX (fun z => z = a) S S44 := GX.tr Gt43 G44 (fun z hz e => absurd hz (e ▸ f_c1))
  have Nn := Nn.gx G44
  have h_c1 : RA S44 c1 14 10 (va_up (va_up (va_up (va_up (va_up (va_up (va_up (va_up (fun _ => none) 0 (some c9)) 1 (some c10)) 2 (some c11)) 3 (some c12)) 4 (some c13)) 5 (some c14)) 6 (some c15)) 7 (some c16)) := by rw [eS44]; exact h_c1.w
  refine V_inc (pc := 108) (fun y => [(0, .ref a), (1, .int y)]) (w := 1) dX7_init_108 (by decide) (by decide) rfl (fun _ => rfl) (fun y108 ey108 => ?_)
  obtain rfl : y108 = nI 8 := by rw [ey108]; exact nI_1 _
  refine V_goto (pc := 111) (t := 89) dX7_init_111 (by decide) ?_
  refine V_iln (pc := 89) dX7_init_89 rfl rfl ?_
  refine V_bipush (pc := 90) (v := 10) dX7_init_90 (by decide) ?_
  refine V_cge (pc := 92) (t := 114) dX7_init_92 (by decide) (fun h => absurd h (by decide)) (fun _ => ?_)
  refine V_aln (pc := 95) dX7_init_95 rfl rfl ?_
  refine V_gr (pc := 96) 7 0 224 dX7_init_96 (FL_X7_11 rfl) rfl rfl h_a.1 ((h_a.2.1 224).trans rfl) ?_
  refine V_iln (pc := 99) dX7_init_99 rfl rfl ?_
  refine V_new (pc := 100) (jn_X7_9 dX7_init_100 rfl) (Nat.le_of_ble_eq_true rfl) (Nat.le_of_ble_eq_true rfl) (fun c17 q_c17 => ?_)
  obtain ⟨S45, eS45⟩ : ∃ Z, Z = nO S44 c17 6 := ⟨_, rfl⟩
  rw [← eS45]
  have G45 : GX (fun z => z = c17) S44 S45 := by rw [eS45]; exact gx_O q_c17 (by decide)
  have f_c17 : c17 ∉ gL S := GX.out Gt44 q_c17
  have n_a_c17 : a ≠ c17 := fun e => q_c17 (e ▸ h_a.1.1)
  have n_c17_a := n_a_c17.symm
  have n_c1_c17 : c1 ≠ c17 := fun e => q_c17 (e ▸ h_c1.1.1)
  have n_c17_c1 := n_c1_c17.symm
  have n_c2_c17 : c2 ≠ c17 := fun e => q_c17 (e ▸ h_c2.1.1)
  have n_c17_c2 := n_c2_c17.symm
  have n_c3_c17 : c3 ≠ c17 := fun e => q_c17 (e ▸ h_c3.1.1)
  have n_c17_c3 := n_c3_c17.symm
  have n_c4_c17 : c4 ≠ c17 := fun e => q_c17 (e ▸ h_c4.1.1)
  have n_c17_c4 := n_c4_c17.symm
  have n_c5_c17 : c5 ≠ c17 := fun e => q_c17 (e ▸ h_c5.1.1)
  have n_c17_c5 := n_c5_c17.symm
  have n_c6_c17 : c6 ≠ c17 := fun e => q_c17 (e ▸ h_c6.1.1)
  have n_c17_c6 := n_c6_c17.symm
  have n_c7_c17 : c7 ≠ c17 := fun e => q_c17 (e ▸ h_c7.1.1)
  have n_c17_c7 := n_c7_c17.symm
  have n_c8_c17 : c8 ≠ c17 := fun e => q_c17 (e ▸ h_c8.1.1)
  have n_c17_c8 := n_c8_c17.symm
  have n_c9_c17 : c9 ≠ c17 := fun e => q_c17 (e ▸ h_c9.1.1)
  have n_c17_c9 := n_c9_c17.symm
  have n_c10_c17 : c10 ≠ c17 := fun e => q_c17 (e ▸ h_c10.1.1)
  have n_c17_c10 := n_c10_c17.symm
  have n_c11_c17 : c11 ≠ c17 := fun e => q_c17 (e ▸ h_c11.1.1)
  have n_c17_c11 := n_c11_c17.symm
  have n_c12_c17 : c12 ≠ c17 := fun e => q_c17 (e ▸ h_c12.1.1)
  have n_c17_c12 := n_c12_c17.symm
  have n_c13_c17 : c13 ≠ c17 := fun e => q_c17 (e ▸ h_c13.1.1)
  have n_c17_c13 := n_c13_c17.symm
  have n_c14_c17 : c14 ≠ c17 := fun e => q_c17 (e ▸ h_c14.1.1)
  have n_c17_c14 := n_c14_c17.symm
  have n_c15_c17 : c15 ≠ c17 := fun e => q_c17 (e ▸ h_c15.1.1)
  have n_c17_c15 := n_c15_c17.symm
  have n_c16_c17 : c16 ≠ c17 := fun e => q_c17 (e ▸ h_c16.1.1)
  have n_c17_c16 := n_c16_c17.symm
  have h_a := h_a.gx G45 n_a_c17
  have h_c1 := h_c1.gx G45 n_c1_c17
  have h_c2 := h_c2.gx G45 n_c2_c17
  have h_c3 := h_c3.gx G45 n_c3_c17
  have h_c4 := h_c4.gx G45 n_c4_c17
  have h_c5 := h_c5.gx G45 n_c5_c17
  have h_c6 := h_c6.gx G45 n_c6_c17
  have h_c7 := h_c7.gx G45 n_c7_c17
  have h_c8 := h_c8.gx G45 n_c8_c17
  have h_c9 := h_c9.gx G45 n_c9_c17
  have h_c10 := h_c10.gx G45 n_c10_c17
  have h_c11 := h_c11.gx G45 n_c11_c17
  have h_c12 := h_c12.gx G45 n_c12_c17
  have h_c13 := h_c13.gx G45 n_c13_c17
  have h_c14 := h_c14.gx G45 n_c14_c17
  have h_c15 := h_c15.gx G45 n_c15_c17
  have h_c16 := h_c16.gx G45 n_c16_c17
  have Gt45 : GX (fun z => z = a) S S45 := GX.tr Gt44 G45 (fun z hz e => absurd hz (e ▸ f_c17))
  have h_c17 : OB S45 c17 6 (fun _ => none) (fun _ => 0) := by rw [eS45]; exact ob_new
  have Nn := Nn.c q_c17 G45 h_c17.1.1
  refine V_dup (pc := 103) dX7_init_103 rfl ?_
  refine V_cIv0 (pc := 104) (jc_X7_42 dX7_init_104 rfl) rfl rfl (Nat.le_of_ble_eq_true rfl) ?_
  refine i_X6 h_c17 (fun  S46 G46   h_N  => ?_)
  have h_a := h_a.gx G46 n_a_c17
  have h_c1 := h_c1.gx G46 n_c1_c17
  have h_c2 := h_c2.gx G46 n_c2_c17
  have h_c3 := h_c3.gx G46 n_c3_c17
  have h_c4 := h_c4.gx G46 n_c4_c17
  have h_c5 := h_c5.gx G46 n_c5_c17
  have h_c6 := h_c6.gx G46 n_c6_c17
  have h_c7 := h_c7.gx G46 n_c7_c17
  have h_c8 := h_c8.gx G46 n_c8_c17
  have h_c9 := h_c9.gx G46 n_c9_c17
  have h_c10 := h_c10.gx G46 n_c10_c17
  have h_c11 := h_c11.gx G46 n_c11_c17
  have h_c12 := h_c12.gx G46 n_c12_c17
  have h_c13 := h_c13.gx G46 n_c13_c17
  have h_c14 := h_c14.gx G46 n_c14_c17
  have h_c15 := h_c15.gx G46 n_c15_c17
  have h_c16 := h_c16.gx G46 n_c16_c17
  have Gt46 : GX (fun z => z = a) S S46 := GX.tr Gt45 G46 (fun z hz e => absurd hz (e ▸ f_c17))
  have h_c17 := h_N
  have Nno := Nn
  have Nn := Nno.gx G46
  refine V_aas (pc := 107) (N := 10) 14 6 8 dX7_init_107 (by decide) (by decide) (by decide) rfl h_c1.1 h_c17.1 h_c1.2.1 (by decide) (by first | rfl | decide) (by decide) ?_
  obtain ⟨S47, eS47⟩ : ∃ Z, Z = sY S46 c1 (va_up (gY S46 c1) 8 (some c17)) := ⟨_, rfl⟩
  rw [← eS47]
  have G47 : GX (fun z => z = c1) S46 S47 := by rw [eS47]; exact gx_sY
  have h_a := h_a.gx G47 n_a_c1
  have h_c2 := h_c2.gx G47 n_c2_c1
  have h_c3 := h_c3.gx G47 n_c3_c1
  have h_c4 := h_c4.gx G47 n_c4_c1
  have h_c5 := h_c5.gx G47 n_c5_c1
  have h_c6 := h_c6.gx G47 n_c6_c1
  have h_c7 := h_c7.gx G47 n_c7_c1
  have h_c8 := h_c8.gx G47 n_c8_c1
  have h_c9 := h_c9.gx G47 n_c9_c1
  have h_c10 := h_c10.gx G47 n_c10_c1
  have h_c11 := h_c11.gx G47 n_c11_c1
  have h_c12 := h_c12.gx G47 n_c12_c1
  have h_c13 := h_c13.gx G47 n_c13_c1
  have h_c14 := h_c14.gx G47 n_c14_c1
  have h_c15 := h_c15.gx G47 n_c15_c1
  have h_c16 := h_c16.gx G47 n_c16_c1
  have h_c17 := h_c17.gx G47 n_c17_c1
  have Gt47 : GX (fun z => z = a) S S47 := GX.tr Gt46 G47 (fun z hz e => absurd hz (e ▸ f_c1))
  have Nn := Nn.gx G47
  have h_c1 : RA S47 c1 14 10 (va_up (va_up (va_up (va_up (va_up (va_up (va_up (va_up (va_up (fun _ => none) 0 (some c9)) 1 (some c10)) 2 (some c11)) 3 (some c12)) 4 (some c13)) 5 (some c14)) 6 (some c15)) 7 (some c16)) 8 (some c17)) := by rw [eS47]; exact h_c1.w
  refine V_inc (pc := 108) (fun y => [(0, .ref a), (1, .int y)]) (w := 1) dX7_init_108 (by decide) (by decide) rfl (fun _ => rfl) (fun y108 ey108 => ?_)
  obtain rfl : y108 = nI 9 := by rw [ey108]; exact nI_1 _
  refine V_goto (pc := 111) (t := 89) dX7_init_111 (by decide) ?_
  refine V_iln (pc := 89) dX7_init_89 rfl rfl ?_
  refine V_bipush (pc := 90) (v := 10) dX7_init_90 (by decide) ?_
  refine V_cge (pc := 92) (t := 114) dX7_init_92 (by decide) (fun h => absurd h (by decide)) (fun _ => ?_)
  refine V_aln (pc := 95) dX7_init_95 rfl rfl ?_
  refine V_gr (pc := 96) 7 0 224 dX7_init_96 (FL_X7_11 rfl) rfl rfl h_a.1 ((h_a.2.1 224).trans rfl) ?_
  refine V_iln (pc := 99) dX7_init_99 rfl rfl ?_
  refine V_new (pc := 100) (jn_X7_9 dX7_init_100 rfl) (Nat.le_of_ble_eq_true rfl) (Nat.le_of_ble_eq_true rfl) (fun c18 q_c18 => ?_)
  obtain ⟨S48, eS48⟩ : ∃ Z, Z = nO S47 c18 6 := ⟨_, rfl⟩
  rw [← eS48]
  have G48 : GX (fun z => z = c18) S47 S48 := by rw [eS48]; exact gx_O q_c18 (by decide)
  have f_c18 : c18 ∉ gL S := GX.out Gt47 q_c18
  have n_a_c18 : a ≠ c18 := fun e => q_c18 (e ▸ h_a.1.1)
  have n_c18_a := n_a_c18.symm
  have n_c1_c18 : c1 ≠ c18 := fun e => q_c18 (e ▸ h_c1.1.1)
  have n_c18_c1 := n_c1_c18.symm
  have n_c2_c18 : c2 ≠ c18 := fun e => q_c18 (e ▸ h_c2.1.1)
  have n_c18_c2 := n_c2_c18.symm
  have n_c3_c18 : c3 ≠ c18 := fun e => q_c18 (e ▸ h_c3.1.1)
  have n_c18_c3 := n_c3_c18.symm
  have n_c4_c18 : c4 ≠ c18 := fun e => q_c18 (e ▸ h_c4.1.1)
  have n_c18_c4 := n_c4_c18.symm
  have n_c5_c18 : c5 ≠ c18 := fun e => q_c18 (e ▸ h_c5.1.1)
  have n_c18_c5 := n_c5_c18.symm
  have n_c6_c18 : c6 ≠ c18 := fun e => q_c18 (e ▸ h_c6.1.1)
  have n_c18_c6 := n_c6_c18.symm
  have n_c7_c18 : c7 ≠ c18 := fun e => q_c18 (e ▸ h_c7.1.1)
  have n_c18_c7 := n_c7_c18.symm
  have n_c8_c18 : c8 ≠ c18 := fun e => q_c18 (e ▸ h_c8.1.1)
  have n_c18_c8 := n_c8_c18.symm
  have n_c9_c18 : c9 ≠ c18 := fun e => q_c18 (e ▸ h_c9.1.1)
  have n_c18_c9 := n_c9_c18.symm
  have n_c10_c18 : c10 ≠ c18 := fun e => q_c18 (e ▸ h_c10.1.1)
  have n_c18_c10 := n_c10_c18.symm
  have n_c11_c18 : c11 ≠ c18 := fun e => q_c18 (e ▸ h_c11.1.1)
  have n_c18_c11 := n_c11_c18.symm
  have n_c12_c18 : c12 ≠ c18 := fun e => q_c18 (e ▸ h_c12.1.1)
  have n_c18_c12 := n_c12_c18.symm
  have n_c13_c18 : c13 ≠ c18 := fun e => q_c18 (e ▸ h_c13.1.1)
  have n_c18_c13 := n_c13_c18.symm
  have n_c14_c18 : c14 ≠ c18 := fun e => q_c18 (e ▸ h_c14.1.1)
  have n_c18_c14 := n_c14_c18.symm
  have n_c15_c18 : c15 ≠ c18 := fun e => q_c18 (e ▸ h_c15.1.1)
  have n_c18_c15 := n_c15_c18.symm
  have n_c16_c18 : c16 ≠ c18 := fun e => q_c18 (e ▸ h_c16.1.1)
  have n_c18_c16 := n_c16_c18.symm
  have n_c17_c18 : c17 ≠ c18 := fun e => q_c18 (e ▸ h_c17.1.1)
  have n_c18_c17 := n_c17_c18.symm
  have h_a := h_a.gx G48 n_a_c18
  have h_c1 := h_c1.gx G48 n_c1_c18
  have h_c2 := h_c2.gx G48 n_c2_c18
  have h_c3 := h_c3.gx G48 n_c3_c18
  have h_c4 := h_c4.gx G48 n_c4_c18
  have h_c5 := h_c5.gx G48 n_c5_c18
  have h_c6 := h_c6.gx G48 n_c6_c18
  have h_c7 := h_c7.gx G48 n_c7_c18
  have h_c8 := h_c8.gx G48 n_c8_c18
  have h_c9 := h_c9.gx G48 n_c9_c18
  have h_c10 := h_c10.gx G48 n_c10_c18
  have h_c11 := h_c11.gx G48 n_c11_c18
  have h_c12 := h_c12.gx G48 n_c12_c18
  have h_c13 := h_c13.gx G48 n_c13_c18
  have h_c14 := h_c14.gx G48 n_c14_c18
  have h_c15 := h_c15.gx G48 n_c15_c18
  have h_c16 := h_c16.gx G48 n_c16_c18
  have h_c17 := h_c17.gx G48 n_c17_c18
  have Gt48 : GX (fun z => z = a) S S48 := GX.tr Gt47 G48 (fun z hz e => absurd hz (e ▸ f_c18))
  have h_c18 : OB S48 c18 6 (fun _ => none) (fun _ => 0) := by rw [eS48]; exact ob_new
  have Nn := Nn.c q_c18 G48 h_c18.1.1
  refine V_dup (pc := 103) dX7_init_103 rfl ?_
  refine V_cIv0 (pc := 104) (jc_X7_42 dX7_init_104 rfl) rfl rfl (Nat.le_of_ble_eq_true rfl) ?_
  refine i_X6 h_c18 (fun  S49 G49   h_N  => ?_)
  have h_a := h_a.gx G49 n_a_c18
  have h_c1 := h_c1.gx G49 n_c1_c18
  have h_c2 := h_c2.gx G49 n_c2_c18
  have h_c3 := h_c3.gx G49 n_c3_c18
  have h_c4 := h_c4.gx G49 n_c4_c18
  have h_c5 := h_c5.gx G49 n_c5_c18
  have h_c6 := h_c6.gx G49 n_c6_c18
  have h_c7 := h_c7.gx G49 n_c7_c18
  have h_c8 := h_c8.gx G49 n_c8_c18
  have h_c9 := h_c9.gx G49 n_c9_c18
  have h_c10 := h_c10.gx G49 n_c10_c18
  have h_c11 := h_c11.gx G49 n_c11_c18
  have h_c12 := h_c12.gx G49 n_c12_c18
  have h_c13 := h_c13.gx G49 n_c13_c18
  have h_c14 := h_c14.gx G49 n_c14_c18
  have h_c15 := h_c15.gx G49 n_c15_c18
  have h_c16 := h_c16.gx G49 n_c16_c18
  have h_c17 := h_c17.gx G49 n_c17_c18
  have Gt49 : GX (fun z => z = a) S S49 := GX.tr Gt48 G49 (fun z hz e => absurd hz (e ▸ f_c18))
  have h_c18 := h_N
  have Nno := Nn
  have Nn := Nno.gx G49
  refine V_aas (pc := 107) (N := 10) 14 6 9 dX7_init_107 (by decide) (by decide) (by decide) rfl h_c1.1 h_c18.1 h_c1.2.1 (by decide) (by first | rfl | decide) (by decide) ?_
  obtain ⟨S50, eS50⟩ : ∃ Z, Z = sY S49 c1 (va_up (gY S49 c1) 9 (some c18)) := ⟨_, rfl⟩
  rw [← eS50]
  have G50 : GX (fun z => z = c1) S49 S50 := by rw [eS50]; exact gx_sY
  have h_a := h_a.gx G50 n_a_c1
  have h_c2 := h_c2.gx G50 n_c2_c1
  have h_c3 := h_c3.gx G50 n_c3_c1
  have h_c4 := h_c4.gx G50 n_c4_c1
  have h_c5 := h_c5.gx G50 n_c5_c1
  have h_c6 := h_c6.gx G50 n_c6_c1
  have h_c7 := h_c7.gx G50 n_c7_c1
  have h_c8 := h_c8.gx G50 n_c8_c1
  have h_c9 := h_c9.gx G50 n_c9_c1
  have h_c10 := h_c10.gx G50 n_c10_c1
  have h_c11 := h_c11.gx G50 n_c11_c1
  have h_c12 := h_c12.gx G50 n_c12_c1
  have h_c13 := h_c13.gx G50 n_c13_c1
  have h_c14 := h_c14.gx G50 n_c14_c1
  have h_c15 := h_c15.gx G50 n_c15_c1
  have h_c16 := h_c16.gx G50 n_c16_c1
  have h_c17 := h_c17.gx G50 n_c17_c1
  have h_c18 := h_c18.gx G50 n_c18_c1
  have Gt50 : GX (fun z => z = a) S S50 := GX.tr Gt49 G50 (fun z hz e => absurd hz (e ▸ f_c1))
  have Nn := Nn.gx G50
  have h_c1 : RA S50 c1 14 10 (va_up (va_up (va_up (va_up (va_up (va_up (va_up (va_up (va_up (va_up (fun _ => none) 0 (some c9)) 1 (some c10)) 2 (some c11)) 3 (some c12)) 4 (some c13)) 5 (some c14)) 6 (some c15)) 7 (some c16)) 8 (some c17)) 9 (some c18)) := by rw [eS50]; exact h_c1.w
  refine V_inc (pc := 108) (fun y => [(0, .ref a), (1, .int y)]) (w := 1) dX7_init_108 (by decide) (by decide) rfl (fun _ => rfl) (fun y108 ey108 => ?_)
  obtain rfl : y108 = nI 10 := by rw [ey108]; exact nI_1 _
  refine V_goto (pc := 111) (t := 89) dX7_init_111 (by decide) ?_
  refine V_iln (pc := 89) dX7_init_89 rfl rfl ?_
  refine V_bipush (pc := 90) (v := 10) dX7_init_90 (by decide) ?_
  refine V_cge (pc := 92) (t := 114) dX7_init_92 (by decide) (fun _ => ?_) (fun h => absurd h (by decide))
  refine V_aln (pc := 114) dX7_init_114 rfl rfl ?_
  refine V_gr (pc := 115) 7 2 226 dX7_init_115 (FL_X7_17 rfl) rfl rfl h_a.1 ((h_a.2.1 226).trans rfl) ?_
  refine V_bipush (pc := 118) (v := 100) dX7_init_118 (by decide) ?_
  refine V_cSv0 (pc := 120) (jc_X7_50 dX7_init_120 rfl) rfl rfl (Nat.le_of_ble_eq_true rfl) ?_
  refine j_fill h_c2.1 h_c2.2.1 (by decide) ?_
  obtain ⟨S51, eS51⟩ : ∃ Z, Z = sX S50 c2 (fa_fill (fun _ => 100) (gX S50 c2) 8) := ⟨_, rfl⟩
  rw [← eS51]
  have G51 : GX (fun z => z = c2) S50 S51 := by rw [eS51]; exact gx_sX
  have h_a := h_a.gx G51 n_a_c2
  have h_c1 := h_c1.gx G51 n_c1_c2
  have h_c3 := h_c3.gx G51 n_c3_c2
  have h_c4 := h_c4.gx G51 n_c4_c2
  have h_c5 := h_c5.gx G51 n_c5_c2
  have h_c6 := h_c6.gx G51 n_c6_c2
  have h_c7 := h_c7.gx G51 n_c7_c2
  have h_c8 := h_c8.gx G51 n_c8_c2
  have h_c9 := h_c9.gx G51 n_c9_c2
  have h_c10 := h_c10.gx G51 n_c10_c2
  have h_c11 := h_c11.gx G51 n_c11_c2
  have h_c12 := h_c12.gx G51 n_c12_c2
  have h_c13 := h_c13.gx G51 n_c13_c2
  have h_c14 := h_c14.gx G51 n_c14_c2
  have h_c15 := h_c15.gx G51 n_c15_c2
  have h_c16 := h_c16.gx G51 n_c16_c2
  have h_c17 := h_c17.gx G51 n_c17_c2
  have h_c18 := h_c18.gx G51 n_c18_c2
  have Gt51 : GX (fun z => z = a) S S51 := GX.tr Gt50 G51 (fun z hz e => absurd hz (e ▸ f_c2))
  have Nn := Nn.gx G51
  have h_c2 : AR S51 c2 8 (fa_fill (fun _ => 100) (gX S50 c2) 8) := by rw [eS51]; exact h_c2.wx
  refine V_ret (pc := 123) dX7_init_123 rfl ?_
  exact h (fun i => [c18, c17, c16, c15, c14, c13, c12, c11, c10, c9, c8, c7, c6, c5, c4, c3, c2, c1, a].getD (wix i) 0) S51 rfl Gt51 (fun i hi h0 => wz_fr i hi h0 f_c1 f_c2 f_c3 f_c4 f_c5 f_c6 f_c7 f_c8 f_c9 f_c10 f_c11 f_c12 f_c13 f_c14 f_c15 f_c16 f_c17 f_c18) (wz_mk Nn h_a h_c1 h_c2 h_c3 h_c4 h_c5 h_c6 h_c7 h_c8 h_c9 h_c10 h_c11 h_c12 h_c13 h_c14 h_c15 h_c16 h_c17 h_c18)
