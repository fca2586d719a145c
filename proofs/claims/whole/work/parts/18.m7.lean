/-! ===== the model: the pound, the false one, the fine ===== -/
/-- kinds, stamps, grains of the n weights are in their ranges -/
def WI (σ : Nat → Int32) (n : Nat) : Prop := ∀ i, i < n → (∃ k : Nat, k ≤ 5 ∧ σ (14 + 4 * i + 0) = nI k) ∧ (∃ s : Nat, 1 ≤ s ∧ s ≤ 999 ∧ σ (14 + 4 * i + 1) = nI s) ∧ (∃ g : Nat, g ≤ 999 ∧ σ (14 + 4 * i + 2) = nI g)
theorem fsum_n {σ : Nat → Int32} (set : Int32) {j : Nat} : ∀ k, (∀ i, i < k → ∃ v : Nat, v ≤ 999 ∧ σ (14 + 4 * i + j) = nI v) → ∃ G : Nat, G ≤ 999 * k ∧ fsum σ set j k = nI G
  | 0, _ => ⟨0, Nat.le_refl _, rfl⟩
  | k + 1, h => by
    obtain ⟨G, hG, e⟩ := fsum_n set k (fun i hi => h i (by omega))
    obtain ⟨v, hv, e2⟩ := h k (by omega)
    unfold fsum
    rw [e]
    by_cases hb : sb set k = 1
    · rw [if_pos hb, e2, nI_add]; exact ⟨G + v, by omega, rfl⟩
    · rw [if_neg hb, show (0 : Int32) = nI 0 from rfl, nI_add]; exact ⟨G + 0, by omega, rfl⟩
theorem WI.g {σ : Nat → Int32} {n : Nat} (h : WI σ n) (set : Int32) : ∃ G : Nat, G ≤ 999 * n ∧ fsum σ set 2 n = nI G := fsum_n set n (fun i hi => (h i hi).2.2)
theorem WI.s {σ : Nat → Int32} {n : Nat} (h : WI σ n) (set : Int32) : ∃ G : Nat, G ≤ 999 * n ∧ fsum σ set 1 n = nI G := fsum_n set n (fun i hi => by obtain ⟨s, h1, h2, h3⟩ := (h i hi).2.1; exact ⟨s, h2, h3⟩)
def o_pound (σ : Nat → Int32) (n : Nat) (p : Int32) : Int32 := if 0 ≤ p.toInt ∧ p.toInt ≤ 1 then (if fsum σ (allS n) 1 n = 0 then p else nI ((if p = 0 then (fsum σ (allS n) 2 n).toNatClampNeg else (fsum σ (allS n) 1 n).toNatClampNeg) / Nat.gcd (fsum σ (allS n) 2 n).toNatClampNeg (fsum σ (allS n) 1 n).toNatClampNeg)) else -1000000001
set_option maxRecDepth 100000 in
set_option maxHeartbeats 4000000 in
theorem m_pound_L {x : pX} {d : Nat} {S : pS} {m : Nat} {as : Nat → Nat} {A : Nat → Nat → Int32} {F : Nat → Int32} {b : Nat × Nat} {Q : Int32 → pS → Prop} {G B : Nat} {p : Int32} (hG : G ≤ 9990) (hB : B ≤ 9990) (h : Q (if nI B = 0 then p else nI ((if p = 0 then G else B) / Nat.gcd G B)) (mP S m as A F)) : ∀ (f u v : Nat), v < f → u ≤ 9990 → v ≤ 9990 → Nat.gcd u v = Nat.gcd G B → V x (d + 4) M_X9_pound (qi Q) b 31 [(0, .ref m), (1, .int p), (2, .int (nI G)), (3, .int (nI B)), (4, .int (nI u)), (5, .int (nI v))] [] (mP S m as A F) := by
  intro f
  induction f with
  | zero => intro u v h1; exact absurd h1 (Nat.not_lt_zero v)
  | succ f ih =>
    intro u v hf hu hv hg
    refine V_il (pc := 31) dX9_pound_31 rfl ?_
    refine V_le (pc := 33) (t := 54) dX9_pound_33 (by decide) (fun h33 => ?_) (fun h33 => ?_)
    · have hv0 : v = 0 := by
        rcases Nat.eq_zero_or_pos v with q | q
        · exact q
        · exact absurd h33 (nI_nle q (by omega))
      subst hv0
      rw [Nat.gcd_zero_right] at hg
      refine V_iln (pc := 54) dX9_pound_54 rfl rfl ?_
      refine V_ne (pc := 55) (t := 62) dX9_pound_55 (by decide) (fun h55 => ?_) (fun h55 => ?_)
      · rw [if_neg h55, ← hg] at h
        have hu0 : 0 < u := by
          rcases Nat.eq_zero_or_pos u with q | q
          · rw [q] at hg; exact absurd (by rw [Nat.eq_zero_of_gcd_eq_zero_right hg.symm]; rfl) h55
          · exact q
        refine V_iln (pc := 62) dX9_pound_62 rfl rfl ?_
        refine V_ne (pc := 63) (t := 70) dX9_pound_63 (by decide) (fun h63 => ?_) (fun h63 => ?_)
        · rw [if_neg h63] at h
          refine V_iln (pc := 70) dX9_pound_70 rfl rfl ?_
          refine V_il (pc := 71) dX9_pound_71 rfl ?_
          refine V_idiv (pc := 73) dX9_pound_73 (nI_ne0 hu0 (by omega)) ?_
          refine V_iret (pc := 74) dX9_pound_74 rfl rfl ?_
          first | exact h | (rw [pk_div (by omega) hu0 (by omega)]; exact h)
        · rw [if_pos h63] at h
          refine V_iln (pc := 66) dX9_pound_66 rfl rfl ?_
          refine V_goto (pc := 67) (t := 71) dX9_pound_67 (by decide) ?_
          refine V_il (pc := 71) dX9_pound_71 rfl ?_
          refine V_idiv (pc := 73) dX9_pound_73 (nI_ne0 hu0 (by omega)) ?_
          refine V_iret (pc := 74) dX9_pound_74 rfl rfl ?_
          first | exact h | (rw [pk_div (by omega) hu0 (by omega)]; exact h)
      · rw [if_pos h55] at h
        refine V_iln (pc := 58) dX9_pound_58 rfl rfl ?_
        refine V_goto (pc := 59) (t := 74) dX9_pound_59 (by decide) ?_
        refine V_iret (pc := 74) dX9_pound_74 rfl rfl ?_
        first | exact h | (rw [pk_div (by omega) hu0 (by omega)]; exact h)
    · have hv0 : 0 < v := by
        rcases Nat.eq_zero_or_pos v with q | q
        · exact absurd (by rw [q]; decide) h33
        · exact q
      refine V_il (pc := 36) dX9_pound_36 rfl ?_
      refine V_il (pc := 38) dX9_pound_38 rfl ?_
      refine V_irem (pc := 40) dX9_pound_40 (nI_ne0 hv0 (by omega)) ?_
      refine V_is (pc := 41) (fun y => [(0, .ref m), (1, .int p), (2, .int (nI G)), (3, .int (nI B)), (4, .int (nI u)), (5, .int (nI v)), (6, .int y)]) dX9_pound_41 (by decide) (fun _ => rfl) (fun y41 ey41 => ?_)
      obtain rfl : y41 = nI (u % v) := by rw [ey41]; exact pk_rem (by omega) hv0 (by omega)
      refine V_il (pc := 43) dX9_pound_43 rfl ?_
      refine V_is (pc := 45) (fun y => [(0, .ref m), (1, .int p), (2, .int (nI G)), (3, .int (nI B)), (4, .int y), (5, .int (nI v)), (6, .int (nI (u % v)))]) dX9_pound_45 (by decide) (fun _ => rfl) (fun y45 ey45 => ?_)
      subst ey45
      refine V_il (pc := 47) dX9_pound_47 rfl ?_
      refine V_is (pc := 49) (fun y => [(0, .ref m), (1, .int p), (2, .int (nI G)), (3, .int (nI B)), (4, .int (nI v)), (5, .int y), (6, .int (nI (u % v)))]) dX9_pound_49 (by decide) (fun _ => rfl) (fun y49 ey49 => ?_)
      subst ey49
      refine V_goto (pc := 51) (t := 31) dX9_pound_51 (by decide) ?_
      refine V_lp [0, 1, 2, 3, 4, 5] (ls' := [(0, .ref m), (1, .int p), (2, .int (nI G)), (3, .int (nI B)), (4, .int (nI v)), (5, .int (nI (u % v)))]) rfl ?_
      exact ih v (u % v) (by have := Nat.mod_lt u hv0; omega) hv (by have := Nat.mod_lt u hv0; omega) (by rw [← hg, Nat.gcd_comm v, ← Nat.gcd_rec, Nat.gcd_comm])
set_option maxRecDepth 100000 in
set_option maxHeartbeats 4000000 in
theorem M_pound {x : pX} {d : Nat} {S : pS} {m : Nat} {as : Nat → Nat} {A : Nat → Nat → Int32} {F : Nat → Int32} {Q : Int32 → pS → Prop} (hM : MF S m as) {n nt np : Nat} {p : Int32} (hI : MI (A 288) n nt np) (hW : WI (A 288) n) (h : Q (o_pound (A 288) n p) (mP S m as A F)) : PI x (d + 4) M_X9_pound [.ref m, .int p] (mP S m as A F) Q := by
  have hn10 := hI.1.2
  unfold o_pound at h
  obtain ⟨G, hG, eG⟩ := hW.g (allS n)
  obtain ⟨B, hB, eB⟩ := hW.s (allS n)
  rw [eG, eB, nI_clamp (by omega), nI_clamp (by omega)] at h
  refine PM_of (by decide +kernel) (Nat.le_of_ble_eq_true rfl) ?_
  show V x (d + 4) M_X9_pound (qi Q) (0, 0) 0 [(0, .ref m), (1, .int p)] [] (mP S m as A F)
  refine V_iln (pc := 0) dX9_pound_0 rfl rfl ?_
  refine V_i2l (pc := 1) dX9_pound_1 ?_
  refine V_lconst (pc := 2) (v := 0) dX9_pound_2 (by decide) ?_
  refine V_lconst (pc := 3) (v := 1) dX9_pound_3 (by decide) ?_
  refine V_cSi0 (pc := 4) (jc_X9_62 dX9_pound_4 rfl) rfl rfl (Nat.le_of_ble_eq_true rfl) ?_
  refine m_isIn (l := 0) 0 1 (by decide) (by decide) (fun a1 a2 => ?_) (fun a0 => ?_)
  · refine V_ne (pc := 7) (t := 13) dX9_pound_7 (by decide) (fun _ => ?_) (fun h => absurd h (by decide))
    refine V_aln (pc := 13) dX9_pound_13 rfl rfl ?_
    refine V_iconst (pc := 14) (v := 2) dX9_pound_14 (by decide) ?_
    refine V_cVi0 (pc := 15) (jc_X9_193 dX9_pound_15 rfl) rfl rfl (Nat.le_of_ble_eq_true rfl) (mF_k hM) ?_
    refine m_allOf hM hI.1.1 hn10 (j := 2) (by decide) ?_
    refine V_isn (pc := 18) (fun y => [(0, .ref m), (1, .int p), (2, .int y)]) dX9_pound_18 rfl (by decide) (fun _ => rfl) (fun y18 ey18 => ?_)
    obtain rfl : y18 = nI G := by rw [ey18]; exact eG
    refine V_aln (pc := 19) dX9_pound_19 rfl rfl ?_
    refine V_iconst (pc := 20) (v := 1) dX9_pound_20 (by decide) ?_
    refine V_cVi0 (pc := 21) (jc_X9_193 dX9_pound_21 rfl) rfl rfl (Nat.le_of_ble_eq_true rfl) (mF_k hM) ?_
    refine m_allOf hM hI.1.1 hn10 (j := 1) (by decide) ?_
    refine V_isn (pc := 24) (fun y => [(0, .ref m), (1, .int p), (2, .int (nI G)), (3, .int y)]) dX9_pound_24 rfl (by decide) (fun _ => rfl) (fun y24 ey24 => ?_)
    obtain rfl : y24 = nI B := by rw [ey24]; exact eB
    refine V_iln (pc := 25) dX9_pound_25 rfl rfl ?_
    refine V_is (pc := 26) (fun y => [(0, .ref m), (1, .int p), (2, .int (nI G)), (3, .int (nI B)), (4, .int y)]) dX9_pound_26 (by decide) (fun _ => rfl) (fun y26 ey26 => ?_)
    subst ey26
    refine V_iln (pc := 28) dX9_pound_28 rfl rfl ?_
    refine V_is (pc := 29) (fun y => [(0, .ref m), (1, .int p), (2, .int (nI G)), (3, .int (nI B)), (4, .int (nI G)), (5, .int y)]) dX9_pound_29 (by decide) (fun _ => rfl) (fun y29 ey29 => ?_)
    subst ey29
    rw [if_pos (by omega)] at h
    exact m_pound_L (by omega) (by omega) h (B + 1) G B (by omega) (by omega) (by omega) rfl
  · refine V_ne (pc := 7) (t := 13) dX9_pound_7 (by decide) (fun h => absurd h (by decide)) (fun _ => ?_)
    refine V_ldc (pc := 10) dX9_pound_10 (KC_X9_82 rfl) ?_
    refine V_iret (pc := 12) dX9_pound_12 rfl rfl ?_
    rw [if_neg (by omega)] at h
    exact h
/-- how many of the first k pages fit -/
def ffn (σ : Nat → Int32) (n : Nat) (but : Int32) : Nat → Nat
  | 0 => 0
  | k + 1 => ffn σ n but k + (if ffit σ n k but then 1 else 0)
theorem ffn_le (σ : Nat → Int32) (n : Nat) (but : Int32) : ∀ k, ffn σ n but k ≤ k
  | 0 => Nat.le_refl _
  | k + 1 => by have := ffn_le σ n but k; unfold ffn; split <;> omega
set_option maxRecDepth 100000 in
set_option maxHeartbeats 4000000 in
theorem m_fitting_L {x : pX} {d : Nat} {S : pS} {m : Nat} {as : Nat → Nat} {A : Nat → Nat → Int32} {F : Nat → Int32} {b : Nat × Nat} {Q : Int32 → pS → Prop} (hM : MF S m as) {n np : Nat} {w : Int32} (hn : A 288 0 = nI n) (hn10 : n ≤ 10) (hp : A 288 5 = nI np) (hp20 : np ≤ 20) (h : Q (nI (ffn (A 288) n (butW w) np)) (mP S m as A F)) : ∀ (c k : Nat), k + c = np → V x (d + 5) M_X9_fitting (qi Q) b 4 [(0, .ref m), (1, .int w), (2, .int (nI (ffn (A 288) n (butW w) k))), (3, .int (nI k))] [] (mP S m as A F) := by
  intro c
  induction c with
  | zero =>
    intro k hk 
    refine V_iln (pc := 4) dX9_fitting_4 rfl rfl ?_
    refine V_aln (pc := 5) dX9_fitting_5 rfl rfl ?_
    refine M_gr (pc := 6) hM 0 288 dX9_fitting_6 (FL_X9_7 rfl) rfl rfl (by decide) ?_
    refine V_iconst (pc := 9) (v := 5) dX9_fitting_9 (by decide) ?_
    refine M_ia (pc := 10) hM 288 5 dX9_fitting_10 (by decide) (by decide) (by simp only [fa_lit, nI_add, pk_mul]) (by show (_ : Nat) < 3154; omega) ?_
    refine V_cge (pc := 11) (t := 37) dX9_fitting_11 (by decide) (fun h11 => ?_) (fun h11 => ?_)
    · refine V_iln (pc := 37) dX9_fitting_37 rfl rfl ?_
      refine V_iret (pc := 38) dX9_fitting_38 rfl rfl ?_
      obtain rfl : k = np := by omega
      exact h
    · exact absurd (by rw [hp]; exact nI_le (by omega) (by omega)) h11
  | succ c ih =>
    intro k hk 
    refine V_iln (pc := 4) dX9_fitting_4 rfl rfl ?_
    refine V_aln (pc := 5) dX9_fitting_5 rfl rfl ?_
    refine M_gr (pc := 6) hM 0 288 dX9_fitting_6 (FL_X9_7 rfl) rfl rfl (by decide) ?_
    refine V_iconst (pc := 9) (v := 5) dX9_fitting_9 (by decide) ?_
    refine M_ia (pc := 10) hM 288 5 dX9_fitting_10 (by decide) (by decide) (by simp only [fa_lit, nI_add, pk_mul]) (by show (_ : Nat) < 3154; omega) ?_
    refine V_cge (pc := 11) (t := 37) dX9_fitting_11 (by decide) (fun h11 => ?_) (fun h11 => ?_)
    · exact absurd h11 (by rw [hp]; exact nI_ge (by omega) (by omega))
    · refine V_iln (pc := 14) dX9_fitting_14 rfl rfl ?_
      refine V_aln (pc := 15) dX9_fitting_15 rfl rfl ?_
      refine V_iln (pc := 16) dX9_fitting_16 rfl rfl ?_
      refine V_iln (pc := 17) dX9_fitting_17 rfl rfl ?_
      refine V_cVi0 (pc := 18) (jc_X9_174 dX9_fitting_18 rfl) rfl rfl (Nat.le_of_ble_eq_true rfl) (mF_k hM) ?_
      refine m_fits hM hn hn10 (i := k) (by omega) (fun z => ?_) (fun z => ?_)
      · have hB : ffn (A 288) n (butW w) (k + 1) = ffn (A 288) n (butW w) k + 1 := by show _ + (if _ then 1 else 0) = _; rw [if_pos z]
        refine V_eq (pc := 21) (t := 28) dX9_fitting_21 (by decide) (fun h => absurd h (by decide)) (fun _ => ?_)
        refine V_iconst (pc := 24) (v := 1) dX9_fitting_24 (by decide) ?_
        refine V_goto (pc := 25) (t := 29) dX9_fitting_25 (by decide) ?_
        refine V_iadd (pc := 29) dX9_fitting_29 ?_
        refine V_isn (pc := 30) (fun y => [(0, .ref m), (1, .int w), (2, .int y), (3, .int (nI k))]) dX9_fitting_30 rfl (by decide) (fun _ => rfl) (fun y30 ey30 => ?_)
        obtain rfl : y30 = nI (ffn (A 288) n (butW w) (k + 1)) := by rw [ey30]; rw [hB]; exact nI_add _ _
        refine V_inc (pc := 31) (fun y => [(0, .ref m), (1, .int w), (2, .int (nI (ffn (A 288) n (butW w) (k + 1)))), (3, .int y)]) (w := 1) dX9_fitting_31 (by decide) (by decide) rfl (fun _ => rfl) (fun y31 ey31 => ?_)
        obtain rfl : y31 = nI (k + 1) := by rw [ey31]; exact nI_1 _
        refine V_goto (pc := 34) (t := 4) dX9_fitting_34 (by decide) ?_
        exact ih (k + 1) (by omega)
      · have hB : ffn (A 288) n (butW w) (k + 1) = ffn (A 288) n (butW w) k + 0 := by show _ + (if _ then 1 else 0) = _; rw [if_neg z]
        refine V_eq (pc := 21) (t := 28) dX9_fitting_21 (by decide) (fun _ => ?_) (fun h => absurd h (by decide))
        refine V_iconst (pc := 28) (v := 0) dX9_fitting_28 (by decide) ?_
        refine V_iadd (pc := 29) dX9_fitting_29 ?_
        refine V_isn (pc := 30) (fun y => [(0, .ref m), (1, .int w), (2, .int y), (3, .int (nI k))]) dX9_fitting_30 rfl (by decide) (fun _ => rfl) (fun y30 ey30 => ?_)
        obtain rfl : y30 = nI (ffn (A 288) n (butW w) (k + 1)) := by rw [ey30]; rw [hB]; exact nI_add _ _
        refine V_inc (pc := 31) (fun y => [(0, .ref m), (1, .int w), (2, .int (nI (ffn (A 288) n (butW w) (k + 1)))), (3, .int y)]) (w := 1) dX9_fitting_31 (by decide) (by decide) rfl (fun _ => rfl) (fun y31 ey31 => ?_)
        obtain rfl : y31 = nI (k + 1) := by rw [ey31]; exact nI_1 _
        refine V_goto (pc := 34) (t := 4) dX9_fitting_34 (by decide) ?_
        exact ih (k + 1) (by omega)
set_option maxRecDepth 100000 in
set_option maxHeartbeats 4000000 in
theorem m_fitting {x : pX} {d : Nat} {S : pS} {m : Nat} {as : Nat → Nat} {A : Nat → Nat → Int32} {F : Nat → Int32} {Q : Int32 → pS → Prop} (hM : MF S m as) {n np : Nat} {w : Int32} (hn : A 288 0 = nI n) (hn10 : n ≤ 10) (hp : A 288 5 = nI np) (hp20 : np ≤ 20) (h : Q (nI (ffn (A 288) n (butW w) np)) (mP S m as A F)) : PI x (d + 5) M_X9_fitting [.ref m, .int w] (mP S m as A F) Q := by
  refine PM_of (by decide +kernel) (Nat.le_of_ble_eq_true rfl) ?_
  show V x (d + 5) M_X9_fitting (qi Q) (0, 0) 0 [(0, .ref m), (1, .int w)] [] (mP S m as A F)
  refine V_iconst (pc := 0) (v := 0) dX9_fitting_0 (by decide) ?_
  refine V_isn (pc := 1) (fun y => [(0, .ref m), (1, .int w), (2, .int y)]) dX9_fitting_1 rfl (by decide) (fun _ => rfl) (fun y1 ey1 => ?_)
  obtain rfl : y1 = nI 0 := ey1
  refine V_iconst (pc := 2) (v := 0) dX9_fitting_2 (by decide) ?_
  refine V_isn (pc := 3) (fun y => [(0, .ref m), (1, .int w), (2, .int (nI 0)), (3, .int y)]) dX9_fitting_3 rfl (by decide) (fun _ => rfl) (fun y3 ey3 => ?_)
  obtain rfl : y3 = nI 0 := ey3
  exact m_fitting_L hM hn hn10 hp hp20 h np 0 (by omega)
/-- the weight without which most pages fit, of the first k: it, how many fit -/
def ffo (σ : Nat → Int32) (n np : Nat) : Nat → Option Nat × Nat
  | 0 => (none, ffn σ n (butW (-1)) np)
  | k + 1 => if (ffo σ n np k).2 < ffn σ n (butW (nI k)) np then (some k, ffn σ n (butW (nI k)) np) else ffo σ n np k
theorem ffo_lt (σ : Nat → Int32) (n np : Nat) : ∀ k j, (ffo σ n np k).1 = some j → j < k
  | 0, j, h => by cases h
  | k + 1, j, h => by
    unfold ffo at h
    split at h
    · cases h; omega
    · have := ffo_lt σ n np k j h; omega
theorem ffo_le (σ : Nat → Int32) (n np : Nat) : ∀ k, (ffo σ n np k).2 ≤ np
  | 0 => ffn_le _ _ _ _
  | k + 1 => by
    unfold ffo
    split
    · exact ffn_le _ _ _ _
    · exact ffo_le σ n np k
def o_false (σ : Nat → Int32) (n np : Nat) : Int32 := orN (ffo σ n np n).1
set_option maxRecDepth 100000 in
set_option maxHeartbeats 4000000 in
theorem m_falseOne_L {x : pX} {d : Nat} {S : pS} {m : Nat} {as : Nat → Nat} {A : Nat → Nat → Int32} {F : Nat → Int32} {b : Nat × Nat} {Q : Int32 → pS → Prop} (hM : MF S m as) {n nt np : Nat} (hI : MI (A 288) n nt np) (h : Q (orN (ffo (A 288) n np n).1) (mP S m as A F)) : ∀ (c k : Nat), k + c = n → V x (d + 6) M_X9_falseOne (qi Q) b 10 [(0, .ref m), (1, .int (bi (ffo (A 288) n np k).1)), (2, .int (nI ((ffo (A 288) n np k).2))), (3, .int (nI k))] [] (mP S m as A F) := by
  intro c
  induction c with
  | zero =>
    intro k hk 
    have hn10 := hI.1.2
    have hp20 := hI.2.2.1.2
    refine V_iln (pc := 10) dX9_falseOne_10 rfl rfl ?_
    refine V_aln (pc := 11) dX9_falseOne_11 rfl rfl ?_
    refine M_gr (pc := 12) hM 0 288 dX9_falseOne_12 (FL_X9_7 rfl) rfl rfl (by decide) ?_
    refine V_iconst (pc := 15) (v := 0) dX9_falseOne_15 (by decide) ?_
    refine M_ia (pc := 16) hM 288 0 dX9_falseOne_16 (by decide) (by decide) (by simp only [fa_lit, nI_add, pk_mul]) (by show (_ : Nat) < 3154; omega) ?_
    refine V_cge (pc := 17) (t := 58) dX9_falseOne_17 (by decide) (fun h17 => ?_) (fun h17 => ?_)
    · refine V_iln (pc := 58) dX9_falseOne_58 rfl rfl ?_
      refine V_cSi0 (pc := 59) (jc_X9_188 dX9_falseOne_59 rfl) rfl rfl (Nat.le_of_ble_eq_true rfl) ?_
      obtain rfl : k = n := by omega
      refine m_orNone ?_
      rw [orN_bi (N := 11) (fun j hj => by have := ffo_lt _ _ _ _ j hj; omega) (by decide)]
      refine V_iret (pc := 62) dX9_falseOne_62 rfl rfl ?_
      exact h
    · exact absurd (by rw [hI.1.1]; exact nI_le (by omega) (by omega)) h17
  | succ c ih =>
    intro k hk 
    have hn10 := hI.1.2
    have hp20 := hI.2.2.1.2
    have l1 := ffo_le (A 288) n np k
    have l2 := ffn_le (A 288) n (butW (nI k)) np
    refine V_iln (pc := 10) dX9_falseOne_10 rfl rfl ?_
    refine V_aln (pc := 11) dX9_falseOne_11 rfl rfl ?_
    refine M_gr (pc := 12) hM 0 288 dX9_falseOne_12 (FL_X9_7 rfl) rfl rfl (by decide) ?_
    refine V_iconst (pc := 15) (v := 0) dX9_falseOne_15 (by decide) ?_
    refine M_ia (pc := 16) hM 288 0 dX9_falseOne_16 (by decide) (by decide) (by simp only [fa_lit, nI_add, pk_mul]) (by show (_ : Nat) < 3154; omega) ?_
    refine V_cge (pc := 17) (t := 58) dX9_falseOne_17 (by decide) (fun h17 => ?_) (fun h17 => ?_)
    · exact absurd h17 (by rw [hI.1.1]; exact nI_ge (by omega) (by omega))
    · refine V_aln (pc := 20) dX9_falseOne_20 rfl rfl ?_
      refine V_iln (pc := 21) dX9_falseOne_21 rfl rfl ?_
      refine V_cVi0 (pc := 22) (jc_X9_196 dX9_falseOne_22 rfl) rfl rfl (Nat.le_of_ble_eq_true rfl) (mF_k hM) ?_
      refine m_fitting hM hI.1.1 hn10 hI.2.2.1.1 hI.2.2.1.2 ?_
      refine V_is (pc := 25) (fun y => [(0, .ref m), (1, .int (bi (ffo (A 288) n np k).1)), (2, .int (nI ((ffo (A 288) n np k).2))), (3, .int (nI k)), (4, .int y)]) dX9_falseOne_25 (by decide) (fun _ => rfl) (fun y25 ey25 => ?_)
      subst ey25
      refine V_il (pc := 27) dX9_falseOne_27 rfl ?_
      refine V_iln (pc := 29) dX9_falseOne_29 rfl rfl ?_
      refine V_cle (pc := 30) (t := 37) dX9_falseOne_30 (by decide) (fun h30 => ?_) (fun h30 => ?_)
      · have hle : ffn (A 288) n (butW (nI k)) np ≤ (ffo (A 288) n np k).2 := (nI_leI (by omega) (by omega)).mp h30
        have hB : ffo (A 288) n np (k + 1) = ffo (A 288) n np k := by show (if _ then _ else _) = _; rw [if_neg (by omega)]
        refine V_iln (pc := 37) dX9_falseOne_37 rfl rfl ?_
        refine V_isn (pc := 38) (fun y => [(0, .ref m), (1, .int y), (2, .int (nI ((ffo (A 288) n np k).2))), (3, .int (nI k)), (4, .int (nI (ffn (A 288) n (butW (nI k)) np)))]) dX9_falseOne_38 rfl (by decide) (fun _ => rfl) (fun y38 ey38 => ?_)
        refine V_il (pc := 39) dX9_falseOne_39 rfl ?_
        refine V_iln (pc := 41) dX9_falseOne_41 rfl rfl ?_
        refine V_cle (pc := 42) (t := 50) dX9_falseOne_42 (by decide) (fun h42 => ?_) (fun h42 => ?_)
        · refine V_iln (pc := 50) dX9_falseOne_50 rfl rfl ?_
          refine V_isn (pc := 51) (fun y => [(0, .ref m), (1, .int y38), (2, .int y), (3, .int (nI k)), (4, .int (nI (ffn (A 288) n (butW (nI k)) np)))]) dX9_falseOne_51 rfl (by decide) (fun _ => rfl) (fun y51 ey51 => ?_)
          subst ey51
          refine V_inc (pc := 52) (fun y => [(0, .ref m), (1, .int y38), (2, .int (nI ((ffo (A 288) n np k).2))), (3, .int y), (4, .int (nI (ffn (A 288) n (butW (nI k)) np)))]) (w := 1) dX9_falseOne_52 (by decide) (by decide) rfl (fun _ => rfl) (fun y52 ey52 => ?_)
          obtain rfl : y52 = nI (k + 1) := by rw [ey52]; exact nI_1 _
          refine V_goto (pc := 55) (t := 10) dX9_falseOne_55 (by decide) ?_
          refine V_lp [0, 1, 2, 3] (ls' := [(0, .ref m), (1, .int y38), (2, .int (nI ((ffo (A 288) n np k).2))), (3, .int (nI (k + 1)))]) rfl ?_
          subst ey38
          have q := ih (k + 1) (by omega)
          rw [hB] at q
          exact q
        · exact absurd h30 h42
      · have hlt : (ffo (A 288) n np k).2 < ffn (A 288) n (butW (nI k)) np := Nat.not_le.mp (fun q => h30 ((nI_leI (by omega) (by omega)).mpr q))
        have hB : ffo (A 288) n np (k + 1) = (some k, ffn (A 288) n (butW (nI k)) np) := by show (if _ then _ else _) = _; rw [if_pos hlt]
        refine V_iln (pc := 33) dX9_falseOne_33 rfl rfl ?_
        refine V_goto (pc := 34) (t := 38) dX9_falseOne_34 (by decide) ?_
        refine V_isn (pc := 38) (fun y => [(0, .ref m), (1, .int y), (2, .int (nI ((ffo (A 288) n np k).2))), (3, .int (nI k)), (4, .int (nI (ffn (A 288) n (butW (nI k)) np)))]) dX9_falseOne_38 rfl (by decide) (fun _ => rfl) (fun y38 ey38 => ?_)
        refine V_il (pc := 39) dX9_falseOne_39 rfl ?_
        refine V_iln (pc := 41) dX9_falseOne_41 rfl rfl ?_
        refine V_cle (pc := 42) (t := 50) dX9_falseOne_42 (by decide) (fun h42 => ?_) (fun h42 => ?_)
        · exact absurd h42 h30
        · refine V_il (pc := 45) dX9_falseOne_45 rfl ?_
          refine V_goto (pc := 47) (t := 51) dX9_falseOne_47 (by decide) ?_
          refine V_isn (pc := 51) (fun y => [(0, .ref m), (1, .int y38), (2, .int y), (3, .int (nI k)), (4, .int (nI (ffn (A 288) n (butW (nI k)) np)))]) dX9_falseOne_51 rfl (by decide) (fun _ => rfl) (fun y51 ey51 => ?_)
          subst ey51
          refine V_inc (pc := 52) (fun y => [(0, .ref m), (1, .int y38), (2, .int (nI (ffn (A 288) n (butW (nI k)) np))), (3, .int y), (4, .int (nI (ffn (A 288) n (butW (nI k)) np)))]) (w := 1) dX9_falseOne_52 (by decide) (by decide) rfl (fun _ => rfl) (fun y52 ey52 => ?_)
          obtain rfl : y52 = nI (k + 1) := by rw [ey52]; exact nI_1 _
          refine V_goto (pc := 55) (t := 10) dX9_falseOne_55 (by decide) ?_
          refine V_lp [0, 1, 2, 3] (ls' := [(0, .ref m), (1, .int y38), (2, .int (nI (ffn (A 288) n (butW (nI k)) np))), (3, .int (nI (k + 1)))]) rfl ?_
          subst ey38
          have q := ih (k + 1) (by omega)
          rw [hB] at q
          exact q
set_option maxRecDepth 100000 in
set_option maxHeartbeats 4000000 in
theorem M_falseOne {x : pX} {d : Nat} {S : pS} {m : Nat} {as : Nat → Nat} {A : Nat → Nat → Int32} {F : Nat → Int32} {Q : Int32 → pS → Prop} (hM : MF S m as) {n nt np : Nat} (hI : MI (A 288) n nt np) (h : Q (o_false (A 288) n np) (mP S m as A F)) : PI x (d + 6) M_X9_falseOne [.ref m] (mP S m as A F) Q := by
  have hn10 := hI.1.2
  refine PM_of (by decide +kernel) (Nat.le_of_ble_eq_true rfl) ?_
  show V x (d + 6) M_X9_falseOne (qi Q) (0, 0) 0 [(0, .ref m)] [] (mP S m as A F)
  refine V_iconst (pc := 0) (v := (-1)) dX9_falseOne_0 (by decide) ?_
  refine V_isn (pc := 1) (fun y => [(0, .ref m), (1, .int y)]) dX9_falseOne_1 rfl (by decide) (fun _ => rfl) (fun y1 ey1 => ?_)
  refine V_aln (pc := 2) dX9_falseOne_2 rfl rfl ?_
  refine V_iconst (pc := 3) (v := (-1)) dX9_falseOne_3 (by decide) ?_
  refine V_cVi0 (pc := 4) (jc_X9_196 dX9_falseOne_4 rfl) rfl rfl (Nat.le_of_ble_eq_true rfl) (mF_k hM) ?_
  refine m_fitting hM hI.1.1 hn10 hI.2.2.1.1 hI.2.2.1.2 ?_
  refine V_isn (pc := 7) (fun y => [(0, .ref m), (1, .int y1), (2, .int y)]) dX9_falseOne_7 rfl (by decide) (fun _ => rfl) (fun y7 ey7 => ?_)
  subst ey7
  refine V_iconst (pc := 8) (v := 0) dX9_falseOne_8 (by decide) ?_
  refine V_isn (pc := 9) (fun y => [(0, .ref m), (1, .int y1), (2, .int (nI (ffn (A 288) n (butW (-1)) np))), (3, .int y)]) dX9_falseOne_9 rfl (by decide) (fun _ => rfl) (fun y9 ey9 => ?_)
  obtain rfl : y9 = nI 0 := ey9
  subst ey1
  exact m_falseOne_L hM hI h n 0 (by omega)
def nmF (l t : Int32) : Nat → Int32 := fun c => if c = 108 then l else t
noncomputable def ffine (σ : Nat → Int32) (nt w : Nat) : Int32 := if fcnt σ 2 nt < 0 then (if σ (14 + 4 * w + 1) - σ (14 + 4 * w + 2) < 0 then 0 else σ (14 + 4 * w + 1) - σ (14 + 4 * w + 2)) else wkd σ (fcnt σ 2 nt).toNatClampNeg (σ (156 + 200 * (fcnt σ 2 nt).toNatClampNeg)).toNatClampNeg (nmF (σ (14 + 4 * w + 1) - σ (14 + 4 * w + 2)) (σ (14 + 4 * w + 3)))
noncomputable def o_fine (σ : Nat → Int32) (n nt : Nat) (w : Int32) : Int32 := if 0 ≤ w.toInt ∧ w.toInt < n then ffine σ nt w.toNatClampNeg else -1000000001
set_option maxRecDepth 100000 in
set_option maxHeartbeats 4000000 in
theorem M_fine {x : pX} {d : Nat} {S : pS} {m : Nat} {as : Nat → Nat} {A : Nat → Nat → Int32} {F : Nat → Int32} {Q : Int32 → pS → Prop} (hM : MF S m as) {n nt np : Nat} {w : Int32} (hI : MI (A 288) n nt np) (h : ∀ A2, sc A A2 → Q (o_fine (A 288) n nt w) (mP S m as A2 F)) : PI x (d + 3) M_X9_fine [.ref m, .int w] (mP S m as A F) Q := by
  have hn10 := hI.1.2
  unfold o_fine at h
  refine PM_of (by decide +kernel) (Nat.le_of_ble_eq_true rfl) ?_
  show V x (d + 3) M_X9_fine (qi Q) (0, 0) 0 [(0, .ref m), (1, .int w)] [] (mP S m as A F)
  refine V_aln (pc := 0) dX9_fine_0 rfl rfl ?_
  refine V_iln (pc := 1) dX9_fine_1 rfl rfl ?_
  refine V_cVi0 (pc := 2) (jc_X9_105 dX9_fine_2 rfl) rfl rfl (Nat.le_of_ble_eq_true rfl) (mF_k hM) ?_
  refine m_isWeight hM hI.1.1 (by omega) (fun i hi ei ti ci => ?_) (fun ni => ?_)
  · subst ei
    refine V_ne (pc := 5) (t := 11) dX9_fine_5 (by decide) (fun _ => ?_) (fun h => absurd h (by decide))
    refine V_aln (pc := 11) dX9_fine_11 rfl rfl ?_
    refine V_iln (pc := 12) dX9_fine_12 rfl rfl ?_
    refine V_iconst (pc := 13) (v := 1) dX9_fine_13 (by decide) ?_
    refine V_cVi0 (pc := 14) (jc_X9_67 dX9_fine_14 rfl) rfl rfl (Nat.le_of_ble_eq_true rfl) (mF_k hM) ?_
    refine m_of hM (i := i) (j := 1) (by omega) ?_
    refine V_aln (pc := 17) dX9_fine_17 rfl rfl ?_
    refine V_iln (pc := 18) dX9_fine_18 rfl rfl ?_
    refine V_iconst (pc := 19) (v := 2) dX9_fine_19 (by decide) ?_
    refine V_cVi0 (pc := 20) (jc_X9_67 dX9_fine_20 rfl) rfl rfl (Nat.le_of_ble_eq_true rfl) (mF_k hM) ?_
    refine m_of hM (i := i) (j := 2) (by omega) ?_
    refine V_isub (pc := 23) dX9_fine_23 ?_
    refine V_isn (pc := 24) (fun y => [(0, .ref m), (1, .int (nI i)), (2, .int y)]) dX9_fine_24 rfl (by decide) (fun _ => rfl) (fun y24 ey24 => ?_)
    subst ey24
    refine V_aln (pc := 25) dX9_fine_25 rfl rfl ?_
    refine V_iconst (pc := 26) (v := 2) dX9_fine_26 (by decide) ?_
    refine V_cVi0 (pc := 27) (jc_X9_88 dX9_fine_27 rfl) rfl rfl (Nat.le_of_ble_eq_true rfl) (mF_k hM) ?_
    refine m_counts hM hI.2.1.1 hI.2.1.2 ?_
    refine V_isn (pc := 30) (fun y => [(0, .ref m), (1, .int (nI i)), (2, .int (A 288 (14 + 4 * i + 1) - A 288 (14 + 4 * i + 2))), (3, .int y)]) dX9_fine_30 rfl (by decide) (fun _ => rfl) (fun y30 ey30 => ?_)
    refine V_iln (pc := 31) dX9_fine_31 rfl rfl ?_
    refine V_ge (pc := 32) (t := 45) dX9_fine_32 (by decide) (fun h32 => ?_) (fun h32 => ?_)
    · obtain ⟨t, ht, hft, hkey⟩ : ∃ t, t < nt ∧ fcnt (A 288) 2 nt = nI t ∧ A 288 (154 + 200 * t) = 2 := by
        rcases fcnt_cases (A 288) 2 nt (by have := hI.2.1.2; omega) with z | z
        · exact absurd (by rw [ey30, z] at h32; exact h32) (by decide)
        · exact z
      obtain rfl : y30 = nI t := ey30.trans hft
      refine V_aln (pc := 45) dX9_fine_45 rfl rfl ?_
      refine M_gr (pc := 46) hM 24 312 dX9_fine_46 (FL_X9_46 rfl) rfl rfl (by decide) ?_
      refine V_bipush (pc := 49) (v := 108) dX9_fine_49 (by decide) ?_
      refine V_iln (pc := 51) dX9_fine_51 rfl rfl ?_
      refine M_ias (pc := 52) hM 312 108 dX9_fine_52 (by decide) (by decide) (by simp only [fa_lit, nI_add, pk_mul]) (by show (_ : Nat) < 128; omega) ?_
      refine V_aln (pc := 53) dX9_fine_53 rfl rfl ?_
      refine M_gr (pc := 54) hM 24 312 dX9_fine_54 (FL_X9_46 rfl) rfl rfl (by decide) ?_
      refine V_bipush (pc := 57) (v := 116) dX9_fine_57 (by decide) ?_
      refine V_aln (pc := 59) dX9_fine_59 rfl rfl ?_
      refine V_iln (pc := 60) dX9_fine_60 rfl rfl ?_
      refine V_iconst (pc := 61) (v := 3) dX9_fine_61 (by decide) ?_
      refine V_cVi0 (pc := 62) (jc_X9_67 dX9_fine_62 rfl) rfl rfl (Nat.le_of_ble_eq_true rfl) (mF_k hM) ?_
      refine m_of hM (i := i) (j := 3) (by omega) ?_
      refine M_ias (pc := 65) hM 312 116 dX9_fine_65 (by decide) (by decide) (by simp only [fa_lit, nI_add, pk_mul]) (by show (_ : Nat) < 128; omega) ?_
      refine V_aln (pc := 66) dX9_fine_66 rfl rfl ?_
      refine V_iln (pc := 67) dX9_fine_67 rfl rfl ?_
      refine V_cVi0 (pc := 68) (jc_X9_92 dX9_fine_68 rfl) rfl rfl (Nat.le_of_ble_eq_true rfl) (mF_k hM) ?_
      obtain ⟨many, hwf⟩ := hI.2.2.2 t ht
      have ew : ∀ r1 r2 : Nat → Int32, va_up (va_up A 312 r1) 312 r2 288 = A 288 := fun r1 r2 => by rw [va_up_ne _ _ (by decide), va_up_ne _ _ (by decide)]
      refine m_worked (A := va_up (va_up A 312 (upd (A 312) 108 (A 288 (14 + 4 * i + 1) - A 288 (14 + 4 * i + 2)))) 312 (upd (va_up A 312 (upd (A 312) 108 (A 288 (14 + 4 * i + 1) - A 288 (14 + 4 * i + 2))) 312) 116 (va_up A 312 (upd (A 312) 108 (A 288 (14 + 4 * i + 1) - A 288 (14 + 4 * i + 2))) 288 (14 + 4 * i + 3)))) (t := t) (many := many) (nm := nmF (A 288 (14 + 4 * i + 1) - A 288 (14 + 4 * i + 2)) (A 288 (14 + 4 * i + 3))) hM ?_ (by have := hI.2.1.2; omega) ?_ (fun A2 hs => ?_)
      · rw [ew]; exact hwf
      · rw [ew, hkey]
        intro c hc
        have e2 : ∀ r1 : Nat → Int32, va_up A 312 r1 288 = A 288 := fun r1 => va_up_ne _ _ (by decide)
        rw [va_up_self, va_up_self, e2]
        unfold nmF
        have hc2 : c = 108 ∨ c = 116 := by
          rcases hc with ⟨z, -⟩ | ⟨z, -⟩ | ⟨-, z⟩
          · exact absurd z (by decide)
          · exact absurd z (by decide)
          · exact z
        rcases hc2 with rfl | rfl
        · rw [pk_un (by decide), pk_us]; rfl
        · rw [pk_us]; rfl
      refine V_iret (pc := 71) dX9_fine_71 rfl rfl ?_
      rw [ew]
      have hp : ffine (A 288) nt i = wkd (A 288) t many (nmF (A 288 (14 + 4 * i + 1) - A 288 (14 + 4 * i + 2)) (A 288 (14 + 4 * i + 3))) := by
        unfold ffine
        rw [if_neg (by rw [hft]; exact nI_pos (by have := hI.2.1.2; omega)), hft, nI_clamp (by have := hI.2.1.2; omega), hwf.1, nI_clamp (by have := hwf.2.2.1; omega)]
      rw [if_pos (by omega), ci, hp] at h
      exact h A2 (fun f a b => by rw [hs f a b, va_up_ne _ _ a, va_up_ne _ _ a])
    · have hp : ffine (A 288) nt i = (if (A 288 (14 + 4 * i + 1) - A 288 (14 + 4 * i + 2)) < 0 then 0 else (A 288 (14 + 4 * i + 1) - A 288 (14 + 4 * i + 2))) := by unfold ffine; rw [if_pos (by rw [← ey30]; exact Int32.not_le.mp h32)]
      rw [if_pos (by omega), ci, hp] at h
      refine V_iln (pc := 35) dX9_fine_35 rfl rfl ?_
      refine V_ge (pc := 36) (t := 43) dX9_fine_36 (by decide) (fun h36 => ?_) (fun h36 => ?_)
      · rw [if_neg (Int32.not_lt.mpr h36)] at h
        refine V_iln (pc := 43) dX9_fine_43 rfl rfl ?_
        refine V_iret (pc := 44) dX9_fine_44 rfl rfl ?_
        exact h A sc.rf
      · rw [if_pos (Int32.not_le.mp h36)] at h
        refine V_iconst (pc := 39) (v := 0) dX9_fine_39 (by decide) ?_
        refine V_goto (pc := 40) (t := 44) dX9_fine_40 (by decide) ?_
        refine V_iret (pc := 44) dX9_fine_44 rfl rfl ?_
        exact h A sc.rf
  · refine V_ne (pc := 5) (t := 11) dX9_fine_5 (by decide) (fun h => absurd h (by decide)) (fun _ => ?_)
    refine V_ldc (pc := 8) dX9_fine_8 (KC_X9_82 rfl) ?_
    refine V_iret (pc := 10) dX9_fine_10 rfl rfl ?_
    rw [if_neg (by omega)] at h
    exact h A sc.rf
