/-! ===== the model: weighings, days ===== -/
/-- the numbers of a row that its order rests on are the same -/
def mk (σ τ : Nat → Int32) : Prop := ∀ k, (k = 0 ∨ k = 1 ∨ k = 5 ∨ 154 ≤ k) → τ k = σ k
theorem mk.rf {σ : Nat → Int32} : mk σ σ := fun _ _ => rfl
theorem mk.tr {σ τ υ : Nat → Int32} (h : mk σ τ) (h2 : mk τ υ) : mk σ υ := fun k hk => (h2 k hk).trans (h k hk)
theorem mk.up {σ τ : Nat → Int32} (h : mk σ τ) {k : Nat} (hk : k = 2 ∨ k = 3 ∨ k = 4 ∨ (6 ≤ k ∧ k < 154)) (v : Int32) : mk σ (upd τ k v) := fun j hj => by
  rw [pk_un (by omega)]; exact h j hj
theorem hgt_same {σ τ : Nat → Int32} (h : ∀ k, 154 ≤ k → τ k = σ k) (t : Nat) : ∀ k, hgt τ t k = hgt σ t k
  | 0 => rfl
  | k + 1 => by
    have ih := hgt_same h t k
    unfold hgt
    rw [h (158 + 200 * t + 2 * k) (by omega), h (159 + 200 * t + 2 * k) (by omega), ih]
theorem wfT_same {σ τ : Nat → Int32} (h : ∀ k, 154 ≤ k → τ k = σ k) {t many : Nat} (hw : wfT σ t many) : wfT τ t many := by
  obtain ⟨h1, h2, h3, h4, h5⟩ := hw
  refine ⟨by rw [h _ (by omega)]; exact h1, h2, h3, fun k hk => ?_, by rw [hgt_same h]; exact h5⟩
  rw [hgt_same h, h (158 + 200 * t + 2 * k) (by omega), h (159 + 200 * t + 2 * k) (by omega), h (154 + 200 * t) (by omega)]
  exact h4 k hk
theorem MI.same {σ τ : Nat → Int32} {n nt np : Nat} (h : MI σ n nt np) (hm : mk σ τ) : MI τ n nt np := by
  obtain ⟨h1, h2, h3, h4⟩ := h
  refine ⟨⟨by rw [hm 0 (by omega)]; exact h1.1, h1.2⟩, ⟨by rw [hm 1 (by omega)]; exact h2.1, h2.2⟩, ⟨by rw [hm 5 (by omega)]; exact h3.1, h3.2⟩, fun t ht => ?_⟩
  obtain ⟨many, hw⟩ := h4 t ht
  exact ⟨many, wfT_same (fun k hk => hm k (by omega)) hw⟩
def fsay (σ : Nat → Int32) (n : Nat) (l r al ar : Int32) : Int32 := if fsum σ l 2 n * al = fsum σ r 2 n * ar then 0 else if fsum σ r 2 n * ar < fsum σ l 2 n * al then 1 else 2
set_option maxRecDepth 100000 in
set_option maxHeartbeats 4000000 in
theorem m_saysBy {x : pX} {d : Nat} {S : pS} {m : Nat} {as : Nat → Nat} {A : Nat → Nat → Int32} {F : Nat → Int32} {Q : Int32 → pS → Prop} (hM : MF S m as) {n : Nat} {l r al ar : Int32} (hn : A 288 0 = nI n) (hn10 : n ≤ 10) (h : Q (fsay (A 288) n l r al ar) (mP S m as A F)) : PI x (d + 3) M_X9_saysBy [.ref m, .int l, .int r, .int al, .int ar] (mP S m as A F) Q := by
  refine PM_of (by decide +kernel) (Nat.le_of_ble_eq_true rfl) ?_
  show V x (d + 3) M_X9_saysBy (qi Q) (0, 0) 0 [(0, .ref m), (1, .int l), (2, .int r), (3, .int al), (4, .int ar)] [] (mP S m as A F)
  refine V_aln (pc := 0) dX9_saysBy_0 rfl rfl ?_
  refine V_iln (pc := 1) dX9_saysBy_1 rfl rfl ?_
  refine V_iconst (pc := 2) (v := 2) dX9_saysBy_2 (by decide) ?_
  refine V_cVi0 (pc := 3) (jc_X9_71 dX9_saysBy_3 rfl) rfl rfl (Nat.le_of_ble_eq_true rfl) (mF_k hM) ?_
  refine m_sumOf hM hn hn10 (j := 2) (by decide) ?_
  refine V_iln (pc := 6) dX9_saysBy_6 rfl rfl ?_
  refine V_imul (pc := 7) dX9_saysBy_7 ?_
  refine V_is (pc := 8) (fun y => [(0, .ref m), (1, .int l), (2, .int r), (3, .int al), (4, .int ar), (5, .int y)]) dX9_saysBy_8 (by decide) (fun _ => rfl) (fun y8 ey8 => ?_)
  refine V_aln (pc := 10) dX9_saysBy_10 rfl rfl ?_
  refine V_iln (pc := 11) dX9_saysBy_11 rfl rfl ?_
  refine V_iconst (pc := 12) (v := 2) dX9_saysBy_12 (by decide) ?_
  refine V_cVi0 (pc := 13) (jc_X9_71 dX9_saysBy_13 rfl) rfl rfl (Nat.le_of_ble_eq_true rfl) (mF_k hM) ?_
  refine m_sumOf hM hn hn10 (j := 2) (by decide) ?_
  refine V_il (pc := 16) dX9_saysBy_16 rfl ?_
  refine V_imul (pc := 18) dX9_saysBy_18 ?_
  refine V_is (pc := 19) (fun y => [(0, .ref m), (1, .int l), (2, .int r), (3, .int al), (4, .int ar), (5, .int y8), (6, .int y)]) dX9_saysBy_19 (by decide) (fun _ => rfl) (fun y19 ey19 => ?_)
  subst ey8; subst ey19
  unfold fsay at h
  refine V_il (pc := 21) dX9_saysBy_21 rfl ?_
  refine V_il (pc := 23) dX9_saysBy_23 rfl ?_
  refine V_cne (pc := 25) (t := 32) dX9_saysBy_25 (by decide) (fun h25 => ?_) (fun h25 => ?_)
  · rw [if_neg h25] at h
    refine V_il (pc := 32) dX9_saysBy_32 rfl ?_
    refine V_il (pc := 34) dX9_saysBy_34 rfl ?_
    refine V_cle (pc := 36) (t := 43) dX9_saysBy_36 (by decide) (fun h36 => ?_) (fun h36 => ?_)
    · rw [if_neg (Int32.not_lt.mpr h36)] at h
      refine V_iconst (pc := 43) (v := 2) dX9_saysBy_43 (by decide) ?_
      refine V_iret (pc := 44) dX9_saysBy_44 rfl rfl ?_
      exact h
    · rw [if_pos (Int32.not_le.mp h36)] at h
      refine V_iconst (pc := 39) (v := 1) dX9_saysBy_39 (by decide) ?_
      refine V_goto (pc := 40) (t := 44) dX9_saysBy_40 (by decide) ?_
      refine V_iret (pc := 44) dX9_saysBy_44 rfl rfl ?_
      exact h
  · rw [if_pos h25] at h
    refine V_iconst (pc := 28) (v := 0) dX9_saysBy_28 (by decide) ?_
    refine V_goto (pc := 29) (t := 44) dX9_saysBy_29 (by decide) ?_
    refine V_iret (pc := 44) dX9_saysBy_44 rfl rfl ?_
    exact h
def o_may (n : Nat) (b l r : Int32) : Int32 := if 0 ≤ b.toInt ∧ b.toInt ≤ 3 ∧ (0 ≤ l.toInt ∧ l.toInt < ((2 ^ n : Nat) : Int)) ∧ 0 ≤ r.toInt ∧ r.toInt < ((2 ^ n : Nat) : Int) then (if ¬ l &&& r = 0 ∨ (l = 0 ∧ r = 0) then -1000000002 else 0) else -1000000001
set_option maxRecDepth 100000 in
set_option maxHeartbeats 4000000 in
theorem m_mayWeigh {x : pX} {d : Nat} {S : pS} {m : Nat} {as : Nat → Nat} {A : Nat → Nat → Int32} {F : Nat → Int32} {Q : Int32 → pS → Prop} (hM : MF S m as) {n : Nat} {b l r : Int32} (hn : A 288 0 = nI n) (hn10 : n ≤ 10) (h : Q (o_may n b l r) (mP S m as A F)) : PI x (d + 3) M_X9_mayWeigh [.ref m, .int b, .int l, .int r] (mP S m as A F) Q := by
  unfold o_may at h
  refine PM_of (by decide +kernel) (Nat.le_of_ble_eq_true rfl) ?_
  show V x (d + 3) M_X9_mayWeigh (qi Q) (0, 0) 0 [(0, .ref m), (1, .int b), (2, .int l), (3, .int r)] [] (mP S m as A F)
  refine V_iln (pc := 0) dX9_mayWeigh_0 rfl rfl ?_
  refine V_cSi0 (pc := 1) (jc_X9_123 dX9_mayWeigh_1 rfl) rfl rfl (Nat.le_of_ble_eq_true rfl) ?_
  refine m_isBalance (fun b1 hb1 eb1 tb1 cb1 => ?_) (fun nb => ?_)
  · subst eb1
    refine V_eq (pc := 4) (t := 23) dX9_mayWeigh_4 (by decide) (fun h => absurd h (by decide)) (fun _ => ?_)
    refine V_aln (pc := 7) dX9_mayWeigh_7 rfl rfl ?_
    refine V_iln (pc := 8) dX9_mayWeigh_8 rfl rfl ?_
    refine V_cVi0 (pc := 9) (jc_X9_136 dX9_mayWeigh_9 rfl) rfl rfl (Nat.le_of_ble_eq_true rfl) (mF_k hM) ?_
    refine m_isSet hM hn hn10 (fun sl hsl esl tsl csl => ?_) (fun nsl => ?_)
    · subst esl
      refine V_eq (pc := 12) (t := 23) dX9_mayWeigh_12 (by decide) (fun h => absurd h (by decide)) (fun _ => ?_)
      refine V_aln (pc := 15) dX9_mayWeigh_15 rfl rfl ?_
      refine V_iln (pc := 16) dX9_mayWeigh_16 rfl rfl ?_
      refine V_cVi0 (pc := 17) (jc_X9_136 dX9_mayWeigh_17 rfl) rfl rfl (Nat.le_of_ble_eq_true rfl) (mF_k hM) ?_
      refine m_isSet hM hn hn10 (fun sr hsr esr tsr csr => ?_) (fun nsr => ?_)
      · subst esr
        refine V_ne (pc := 20) (t := 26) dX9_mayWeigh_20 (by decide) (fun _ => ?_) (fun h => absurd h (by decide))
        rw [if_pos (by omega)] at h
        refine V_iln (pc := 26) dX9_mayWeigh_26 rfl rfl ?_
        refine V_iln (pc := 27) dX9_mayWeigh_27 rfl rfl ?_
        refine V_iand (pc := 28) dX9_mayWeigh_28 ?_
        refine V_ne (pc := 29) (t := 40) dX9_mayWeigh_29 (by decide) (fun h29 => ?_) (fun h29 => ?_)
        · refine V_ldc (pc := 40) dX9_mayWeigh_40 (KC_X9_139 rfl) ?_
          refine V_goto (pc := 42) (t := 46) dX9_mayWeigh_42 (by decide) ?_
          refine V_iret (pc := 46) dX9_mayWeigh_46 rfl rfl ?_
          first | (rw [if_pos (Or.inl h29)] at h; exact h) | (rw [if_pos (Or.inr ⟨h33, h37⟩)] at h; exact h) | (rw [if_neg (by rintro (z | ⟨z1, z2⟩); exact z h29; first | exact h33 z1 | exact h37 z2)] at h; exact h)
        · refine V_iln (pc := 32) dX9_mayWeigh_32 rfl rfl ?_
          refine V_ne (pc := 33) (t := 45) dX9_mayWeigh_33 (by decide) (fun h33 => ?_) (fun h33 => ?_)
          · refine V_iconst (pc := 45) (v := 0) dX9_mayWeigh_45 (by decide) ?_
            refine V_iret (pc := 46) dX9_mayWeigh_46 rfl rfl ?_
            first | (rw [if_pos (Or.inl h29)] at h; exact h) | (rw [if_pos (Or.inr ⟨h33, h37⟩)] at h; exact h) | (rw [if_neg (by rintro (z | ⟨z1, z2⟩); exact z h29; first | exact h33 z1 | exact h37 z2)] at h; exact h)
          · refine V_iln (pc := 36) dX9_mayWeigh_36 rfl rfl ?_
            refine V_ne (pc := 37) (t := 45) dX9_mayWeigh_37 (by decide) (fun h37 => ?_) (fun h37 => ?_)
            · refine V_iconst (pc := 45) (v := 0) dX9_mayWeigh_45 (by decide) ?_
              refine V_iret (pc := 46) dX9_mayWeigh_46 rfl rfl ?_
              first | (rw [if_pos (Or.inl h29)] at h; exact h) | (rw [if_pos (Or.inr ⟨h33, h37⟩)] at h; exact h) | (rw [if_neg (by rintro (z | ⟨z1, z2⟩); exact z h29; first | exact h33 z1 | exact h37 z2)] at h; exact h)
            · refine V_ldc (pc := 40) dX9_mayWeigh_40 (KC_X9_139 rfl) ?_
              refine V_goto (pc := 42) (t := 46) dX9_mayWeigh_42 (by decide) ?_
              refine V_iret (pc := 46) dX9_mayWeigh_46 rfl rfl ?_
              first | (rw [if_pos (Or.inl h29)] at h; exact h) | (rw [if_pos (Or.inr ⟨h33, h37⟩)] at h; exact h) | (rw [if_neg (by rintro (z | ⟨z1, z2⟩); exact z h29; first | exact h33 z1 | exact h37 z2)] at h; exact h)
      · refine V_ne (pc := 20) (t := 26) dX9_mayWeigh_20 (by decide) (fun h => absurd h (by decide)) (fun _ => ?_)
        refine V_ldc (pc := 23) dX9_mayWeigh_23 (KC_X9_82 rfl) ?_
        refine V_iret (pc := 25) dX9_mayWeigh_25 rfl rfl ?_
        rw [if_neg (by omega)] at h
        exact h
    · refine V_eq (pc := 12) (t := 23) dX9_mayWeigh_12 (by decide) (fun _ => ?_) (fun h => absurd h (by decide))
      refine V_ldc (pc := 23) dX9_mayWeigh_23 (KC_X9_82 rfl) ?_
      refine V_iret (pc := 25) dX9_mayWeigh_25 rfl rfl ?_
      rw [if_neg (by omega)] at h
      exact h
  · refine V_eq (pc := 4) (t := 23) dX9_mayWeigh_4 (by decide) (fun _ => ?_) (fun h => absurd h (by decide))
    refine V_ldc (pc := 23) dX9_mayWeigh_23 (KC_X9_82 rfl) ?_
    refine V_iret (pc := 25) dX9_mayWeigh_25 rfl rfl ?_
    rw [if_neg (by omega)] at h
    exact h
def o_said (σ : Nat → Int32) (n : Nat) (b l r : Int32) : Int32 := if ¬ o_may n b l r = 0 then o_may n b l r else fsay σ n l r (σ (6 + 2 * b.toNatClampNeg)) (σ (6 + 2 * b.toNatClampNeg + 1))
theorem o_may_0 {n : Nat} {b l r : Int32} (h : o_may n b l r = 0) : 0 ≤ b.toInt ∧ b.toInt ≤ 3 := by
  unfold o_may at h
  split at h
  · rename_i q; exact ⟨q.1, q.2.1⟩
  · exact absurd h (by decide)
set_option maxRecDepth 100000 in
set_option maxHeartbeats 4000000 in
theorem m_said {x : pX} {d : Nat} {S : pS} {m : Nat} {as : Nat → Nat} {A : Nat → Nat → Int32} {F : Nat → Int32} {Q : Int32 → pS → Prop} (hM : MF S m as) {n : Nat} {b l r : Int32} (hn : A 288 0 = nI n) (hn10 : n ≤ 10) (h : Q (o_said (A 288) n b l r) (mP S m as A F)) : PI x (d + 4) M_X9_said [.ref m, .int b, .int l, .int r] (mP S m as A F) Q := by
  refine PM_of (by decide +kernel) (Nat.le_of_ble_eq_true rfl) ?_
  show V x (d + 4) M_X9_said (qi Q) (0, 0) 0 [(0, .ref m), (1, .int b), (2, .int l), (3, .int r)] [] (mP S m as A F)
  refine V_aln (pc := 0) dX9_said_0 rfl rfl ?_
  refine V_iln (pc := 1) dX9_said_1 rfl rfl ?_
  refine V_iln (pc := 2) dX9_said_2 rfl rfl ?_
  refine V_iln (pc := 3) dX9_said_3 rfl rfl ?_
  refine V_cVi0 (pc := 4) (jc_X9_140 dX9_said_4 rfl) rfl rfl (Nat.le_of_ble_eq_true rfl) (mF_k hM) ?_
  refine m_mayWeigh hM hn hn10 ?_
  refine V_is (pc := 7) (fun y => [(0, .ref m), (1, .int b), (2, .int l), (3, .int r), (4, .int y)]) dX9_said_7 (by decide) (fun _ => rfl) (fun y7 ey7 => ?_)
  refine V_il (pc := 9) dX9_said_9 rfl ?_
  refine V_eq (pc := 11) (t := 19) dX9_said_11 (by decide) (fun h11 => ?_) (fun h11 => ?_)
  · have h7 : o_may n b l r = 0 := by rw [← ey7]; exact h11
    obtain ⟨i, hi, e, e2, e3⟩ := idx_of (w := b) (n := 4) (by decide) (o_may_0 h7).1 (by have := (o_may_0 h7).2; omega)
    subst e
    unfold o_said at h; rw [if_neg (fun q => q h7), e3] at h
    refine V_aln (pc := 19) dX9_said_19 rfl rfl ?_
    refine V_iln (pc := 20) dX9_said_20 rfl rfl ?_
    refine V_iln (pc := 21) dX9_said_21 rfl rfl ?_
    refine V_aln (pc := 22) dX9_said_22 rfl rfl ?_
    refine M_gr (pc := 23) hM 0 288 dX9_said_23 (FL_X9_7 rfl) rfl rfl (by decide) ?_
    refine V_bipush (pc := 26) (v := 6) dX9_said_26 (by decide) ?_
    refine V_iconst (pc := 28) (v := 2) dX9_said_28 (by decide) ?_
    refine V_iln (pc := 29) dX9_said_29 rfl rfl ?_
    refine V_imul (pc := 30) dX9_said_30 ?_
    refine V_iadd (pc := 31) dX9_said_31 ?_
    refine M_ia (pc := 32) hM 288 (6 + 2 * i) dX9_said_32 (by decide) (by decide) (by simp only [fa_lit, nI_add, pk_mul]) (by show (_ : Nat) < 3154; omega) ?_
    refine V_aln (pc := 33) dX9_said_33 rfl rfl ?_
    refine M_gr (pc := 34) hM 0 288 dX9_said_34 (FL_X9_7 rfl) rfl rfl (by decide) ?_
    refine V_bipush (pc := 37) (v := 6) dX9_said_37 (by decide) ?_
    refine V_iconst (pc := 39) (v := 2) dX9_said_39 (by decide) ?_
    refine V_iln (pc := 40) dX9_said_40 rfl rfl ?_
    refine V_imul (pc := 41) dX9_said_41 ?_
    refine V_iadd (pc := 42) dX9_said_42 ?_
    refine V_iconst (pc := 43) (v := 1) dX9_said_43 (by decide) ?_
    refine V_iadd (pc := 44) dX9_said_44 ?_
    refine M_ia (pc := 45) hM 288 ((6 + 2 * i) + 1) dX9_said_45 (by decide) (by decide) (by simp only [fa_lit, nI_add, pk_mul]) (by show (_ : Nat) < 3154; omega) ?_
    refine V_cVi0 (pc := 46) (jc_X9_143 dX9_said_46 rfl) rfl rfl (Nat.le_of_ble_eq_true rfl) (mF_k hM) ?_
    refine m_saysBy hM hn hn10 ?_
    refine V_iret (pc := 49) dX9_said_49 rfl rfl ?_
    exact h
  · unfold o_said at h; rw [if_pos (by rw [← ey7]; exact h11)] at h
    subst ey7
    refine V_il (pc := 14) dX9_said_14 rfl ?_
    refine V_goto (pc := 16) (t := 49) dX9_said_16 (by decide) ?_
    refine V_iret (pc := 49) dX9_said_49 rfl rfl ?_
    exact h
/-- pages moved on by one, the first j numbers of them -/
def shP (σ : Nat → Int32) (j : Nat) : Nat → Int32 := fun k => if 54 ≤ k ∧ k < 54 + j then σ (k + 5) else σ k
theorem shP_s (σ : Nat → Int32) (j : Nat) : upd (shP σ j) (54 + j) (σ (59 + j)) = shP σ (j + 1) := by
  funext k
  by_cases hk : k = 54 + j
  · subst hk; rw [pk_us]; unfold shP; rw [if_pos (by omega), show 54 + j + 5 = 59 + j by omega]
  · rw [pk_un hk]; unfold shP
    by_cases h2 : 54 ≤ k ∧ k < 54 + j
    · rw [if_pos h2, if_pos (by omega)]
    · rw [if_neg h2, if_neg (by omega)]
def pg5 (σ : Nat → Int32) (q : Nat) (l r al ar s : Int32) : Nat → Int32 := upd (upd (upd (upd (upd (upd σ (54 + 5 * q) l) (54 + 5 * q + 1) r) (54 + 5 * q + 2) s) (54 + 5 * q + 3) al) (54 + 5 * q + 4) ar) 5 (nI (q + 1))
/-- a page written behind the np that are there, the oldest one gone where there are 20 -/
def sPage (σ : Nat → Int32) (np : Nat) (l r al ar s : Int32) : Nat → Int32 := if np = 20 then pg5 (upd (shP σ 95) 5 (nI 19)) 19 l r al ar s else pg5 σ np l r al ar s
set_option maxRecDepth 100000 in
set_option maxHeartbeats 4000000 in
theorem m_writes_T {x : pX} {d : Nat} {S : pS} {m : Nat} {as : Nat → Nat} {A : Nat → Nat → Int32} {F : Nat → Int32} {b : Nat × Nat} {Q : pS → Prop} (hM : MF S m as) {q : Nat} {l r al ar s : Int32} (hq : A 288 5 = nI q) (hq2 : q < 20) (h : Q (mP S m as (uA A (pg5 (A 288) q l r al ar s)) F)) : V x (d + 1) M_X9_writes (qv Q) b 57 [(0, .ref m), (1, .int l), (2, .int r), (3, .int al), (4, .int ar), (5, .int s)] [] (mP S m as A F) := by
  refine V_bipush (pc := 57) (v := 54) dX9_writes_57 (by decide) ?_
  refine V_iconst (pc := 59) (v := 5) dX9_writes_59 (by decide) ?_
  refine V_aln (pc := 60) dX9_writes_60 rfl rfl ?_
  refine M_gr (pc := 61) hM 0 288 dX9_writes_61 (FL_X9_7 rfl) rfl rfl (by decide) ?_
  refine V_iconst (pc := 64) (v := 5) dX9_writes_64 (by decide) ?_
  refine M_ia (pc := 65) hM 288 5 dX9_writes_65 (by decide) (by decide) (by simp only [fa_lit, nI_add, pk_mul]) (by show (_ : Nat) < 3154; omega) ?_
  refine V_imul (pc := 66) dX9_writes_66 ?_
  refine V_iadd (pc := 67) dX9_writes_67 ?_
  refine V_is (pc := 68) (fun y => [(0, .ref m), (1, .int l), (2, .int r), (3, .int al), (4, .int ar), (5, .int s), (6, .int y)]) dX9_writes_68 (by decide) (fun _ => rfl) (fun y68 ey68 => ?_)
  obtain rfl : y68 = nI (54 + 5 * q) := by rw [ey68]; rw [hq]; simp only [fa_lit, nI_add, pk_mul]
  refine V_aln (pc := 70) dX9_writes_70 rfl rfl ?_
  refine M_gr (pc := 71) hM 0 288 dX9_writes_71 (FL_X9_7 rfl) rfl rfl (by decide) ?_
  refine V_il (pc := 74) dX9_writes_74 rfl ?_
  refine V_iln (pc := 76) dX9_writes_76 rfl rfl ?_
  refine M_iasS (pc := 77) hM ((54 + 5 * q)) dX9_writes_77 (by simp only [fa_lit, nI_add, pk_mul]) (by show (_ : Nat) < 3154; omega) ?_
  refine V_aln (pc := 78) dX9_writes_78 rfl rfl ?_
  refine M_gr (pc := 79) hM 0 288 dX9_writes_79 (FL_X9_7 rfl) rfl rfl (by decide) ?_
  refine V_il (pc := 82) dX9_writes_82 rfl ?_
  refine V_iconst (pc := 84) (v := 1) dX9_writes_84 (by decide) ?_
  refine V_iadd (pc := 85) dX9_writes_85 ?_
  refine V_iln (pc := 86) dX9_writes_86 rfl rfl ?_
  refine M_iasS (pc := 87) hM (((54 + 5 * q)) + 1) dX9_writes_87 (by simp only [fa_lit, nI_add, pk_mul]) (by show (_ : Nat) < 3154; omega) ?_
  refine V_aln (pc := 88) dX9_writes_88 rfl rfl ?_
  refine M_gr (pc := 89) hM 0 288 dX9_writes_89 (FL_X9_7 rfl) rfl rfl (by decide) ?_
  refine V_il (pc := 92) dX9_writes_92 rfl ?_
  refine V_iconst (pc := 94) (v := 2) dX9_writes_94 (by decide) ?_
  refine V_iadd (pc := 95) dX9_writes_95 ?_
  refine V_il (pc := 96) dX9_writes_96 rfl ?_
  refine M_iasS (pc := 98) hM (((54 + 5 * q)) + 2) dX9_writes_98 (by simp only [fa_lit, nI_add, pk_mul]) (by show (_ : Nat) < 3154; omega) ?_
  refine V_aln (pc := 99) dX9_writes_99 rfl rfl ?_
  refine M_gr (pc := 100) hM 0 288 dX9_writes_100 (FL_X9_7 rfl) rfl rfl (by decide) ?_
  refine V_il (pc := 103) dX9_writes_103 rfl ?_
  refine V_iconst (pc := 105) (v := 3) dX9_writes_105 (by decide) ?_
  refine V_iadd (pc := 106) dX9_writes_106 ?_
  refine V_iln (pc := 107) dX9_writes_107 rfl rfl ?_
  refine M_iasS (pc := 108) hM (((54 + 5 * q)) + 3) dX9_writes_108 (by simp only [fa_lit, nI_add, pk_mul]) (by show (_ : Nat) < 3154; omega) ?_
  refine V_aln (pc := 109) dX9_writes_109 rfl rfl ?_
  refine M_gr (pc := 110) hM 0 288 dX9_writes_110 (FL_X9_7 rfl) rfl rfl (by decide) ?_
  refine V_il (pc := 113) dX9_writes_113 rfl ?_
  refine V_iconst (pc := 115) (v := 4) dX9_writes_115 (by decide) ?_
  refine V_iadd (pc := 116) dX9_writes_116 ?_
  refine V_il (pc := 117) dX9_writes_117 rfl ?_
  refine M_iasS (pc := 119) hM (((54 + 5 * q)) + 4) dX9_writes_119 (by simp only [fa_lit, nI_add, pk_mul]) (by show (_ : Nat) < 3154; omega) ?_
  refine V_aln (pc := 120) dX9_writes_120 rfl rfl ?_
  refine M_gr (pc := 121) hM 0 288 dX9_writes_121 (FL_X9_7 rfl) rfl rfl (by decide) ?_
  refine V_iconst (pc := 124) (v := 5) dX9_writes_124 (by decide) ?_
  refine V_dup2 (pc := 125) dX9_writes_125 rfl rfl ?_
  refine M_ia (pc := 126) hM 288 5 dX9_writes_126 (by decide) (by decide) (by simp only [fa_lit, nI_add, pk_mul]) (by show (_ : Nat) < 3154; omega) ?_
  refine V_iconst (pc := 127) (v := 1) dX9_writes_127 (by decide) ?_
  refine V_iadd (pc := 128) dX9_writes_128 ?_
  refine M_iasS (pc := 129) hM 5 dX9_writes_129 (by simp only [fa_lit, nI_add, pk_mul]) (by show (_ : Nat) < 3154; omega) ?_
  refine V_ret (pc := 130) dX9_writes_130 rfl ?_
  simp only [uA_at, uA_uA]
  have e5 : ∀ τ : Nat → Int32, τ 5 = nI q → τ 5 + 1 = nI (q + 1) := fun τ h => by rw [h]; exact nI_1 q
  rw [e5 _ (by rw [pk_un (by omega), pk_un (by omega), pk_un (by omega), pk_un (by omega), pk_un (by omega)]; exact hq)]
  exact h
set_option maxRecDepth 100000 in
set_option maxHeartbeats 4000000 in
theorem m_writes_L {x : pX} {d : Nat} {S : pS} {m : Nat} {as : Nat → Nat} {F : Nat → Int32} {b : Nat × Nat} {Q : pS → Prop} (hM : MF S m as) {σ : Nat → Int32} {A0 : Nat → Nat → Int32} {l r al ar s : Int32} (hA0 : A0 288 = σ) (h5 : σ 5 = nI 20) (h : Q (mP S m as (uA A0 (pg5 (upd (shP σ 95) 5 (nI 19)) 19 l r al ar s)) F)) : ∀ (c k : Nat), k + c = 95 → V x (d + 1) M_X9_writes (qv Q) b 14 [(0, .ref m), (1, .int l), (2, .int r), (3, .int al), (4, .int ar), (5, .int s), (6, .int (nI k))] [] (mP S m as (uA A0 (shP σ k)) F) := by
  intro c
  induction c with
  | zero =>
    intro k hk 
    refine V_il (pc := 14) dX9_writes_14 rfl ?_
    refine V_bipush (pc := 16) (v := 95) dX9_writes_16 (by decide) ?_
    refine V_cge (pc := 18) (t := 47) dX9_writes_18 (by decide) (fun h18 => ?_) (fun h18 => ?_)
    · refine V_aln (pc := 47) dX9_writes_47 rfl rfl ?_
      refine M_gr (pc := 48) hM 0 288 dX9_writes_48 (FL_X9_7 rfl) rfl rfl (by decide) ?_
      refine V_iconst (pc := 51) (v := 5) dX9_writes_51 (by decide) ?_
      refine V_dup2 (pc := 52) dX9_writes_52 rfl rfl ?_
      refine M_ia (pc := 53) hM 288 5 dX9_writes_53 (by decide) (by decide) (by simp only [fa_lit, nI_add, pk_mul]) (by show (_ : Nat) < 3154; omega) ?_
      refine V_iconst (pc := 54) (v := 1) dX9_writes_54 (by decide) ?_
      refine V_isub (pc := 55) dX9_writes_55 ?_
      refine M_iasS (pc := 56) hM 5 dX9_writes_56 (by simp only [fa_lit, nI_add, pk_mul]) (by show (_ : Nat) < 3154; omega) ?_
      refine V_lp [0, 1, 2, 3, 4, 5] (ls' := [(0, .ref m), (1, .int l), (2, .int r), (3, .int al), (4, .int ar), (5, .int s)]) rfl ?_
      have e5 : shP σ k 5 = nI 20 := by unfold shP; rw [if_neg (by omega)]; exact h5
      have e6 : nI 20 - 1 = nI 19 := by decide
      rw [uA_at, uA_uA, e5, e6, show k = 95 by omega]
      refine m_writes_T (q := 19) hM (by rw [uA_at]; exact pk_us) (by decide) ?_
      rw [uA_at, uA_uA]; exact h
    · exact absurd (by rw [show k = 95 by omega]; decide) h18
  | succ c ih =>
    intro k hk 
    refine V_il (pc := 14) dX9_writes_14 rfl ?_
    refine V_bipush (pc := 16) (v := 95) dX9_writes_16 (by decide) ?_
    refine V_cge (pc := 18) (t := 47) dX9_writes_18 (by decide) (fun h18 => ?_) (fun h18 => ?_)
    · exact absurd h18 (nI_ge (b := 95) (by omega) (by decide))
    · refine V_aln (pc := 21) dX9_writes_21 rfl rfl ?_
      refine M_gr (pc := 22) hM 0 288 dX9_writes_22 (FL_X9_7 rfl) rfl rfl (by decide) ?_
      refine V_bipush (pc := 25) (v := 54) dX9_writes_25 (by decide) ?_
      refine V_il (pc := 27) dX9_writes_27 rfl ?_
      refine V_iadd (pc := 29) dX9_writes_29 ?_
      refine V_aln (pc := 30) dX9_writes_30 rfl rfl ?_
      refine M_gr (pc := 31) hM 0 288 dX9_writes_31 (FL_X9_7 rfl) rfl rfl (by decide) ?_
      refine V_bipush (pc := 34) (v := 59) dX9_writes_34 (by decide) ?_
      refine V_il (pc := 36) dX9_writes_36 rfl ?_
      refine V_iadd (pc := 38) dX9_writes_38 ?_
      refine M_ia (pc := 39) hM 288 (59 + k) dX9_writes_39 (by decide) (by decide) (by simp only [fa_lit, nI_add]) (by show (_ : Nat) < 3154; omega) ?_
      refine M_iasS (pc := 40) hM (54 + k) dX9_writes_40 (by simp only [fa_lit, nI_add]) (by show (_ : Nat) < 3154; omega) ?_
      refine V_inc (pc := 41) (fun y => [(0, .ref m), (1, .int l), (2, .int r), (3, .int al), (4, .int ar), (5, .int s), (6, .int y)]) (w := 1) dX9_writes_41 (by decide) (by decide) rfl (fun _ => rfl) (fun y41 ey41 => ?_)
      obtain rfl : y41 = nI (k + 1) := by rw [ey41]; exact nI_1 _
      refine V_goto (pc := 44) (t := 14) dX9_writes_44 (by decide) ?_
      rw [uA_at, uA_uA]
      have e : shP σ k (59 + k) = σ (59 + k) := by unfold shP; rw [if_neg (by omega)]
      rw [e, shP_s]
      exact ih (k + 1) (by omega)
set_option maxRecDepth 100000 in
set_option maxHeartbeats 4000000 in
theorem m_writes {x : pX} {d : Nat} {S : pS} {m : Nat} {as : Nat → Nat} {A : Nat → Nat → Int32} {F : Nat → Int32} {Q : pS → Prop} (hM : MF S m as) {np : Nat} {l r al ar s : Int32} (hn : A 288 5 = nI np) (hn20 : np ≤ 20) (h : Q (mP S m as (uA A (sPage (A 288) np l r al ar s)) F)) : PV x (d + 1) M_X9_writes [.ref m, .int l, .int r, .int al, .int ar, .int s] (mP S m as A F) Q := by
  refine PM_of (by decide +kernel) (Nat.le_of_ble_eq_true rfl) ?_
  show V x (d + 1) M_X9_writes (qv Q) (0, 0) 0 [(0, .ref m), (1, .int l), (2, .int r), (3, .int al), (4, .int ar), (5, .int s)] [] (mP S m as A F)
  refine V_aln (pc := 0) dX9_writes_0 rfl rfl ?_
  refine M_gr (pc := 1) hM 0 288 dX9_writes_1 (FL_X9_7 rfl) rfl rfl (by decide) ?_
  refine V_iconst (pc := 4) (v := 5) dX9_writes_4 (by decide) ?_
  refine M_ia (pc := 5) hM 288 5 dX9_writes_5 (by decide) (by decide) (by simp only [fa_lit, nI_add, pk_mul]) (by show (_ : Nat) < 3154; omega) ?_
  refine V_bipush (pc := 6) (v := 20) dX9_writes_6 (by decide) ?_
  refine V_cne (pc := 8) (t := 57) dX9_writes_8 (by decide) (fun h8 => ?_) (fun h8 => ?_)
  · have h20 : np < 20 := by
      rcases Nat.lt_or_ge np 20 with q | q
      · exact q
      · exact absurd (by rw [hn, show np = 20 by omega]; rfl) h8
    unfold sPage at h; rw [if_neg (by omega)] at h
    exact m_writes_T hM hn h20 h
  · have h20 : np = 20 := (nI_eq (by omega) (by decide)).mp (by rw [← hn]; exact h8)
    unfold sPage at h; rw [if_pos h20] at h
    refine V_iconst (pc := 11) (v := 0) dX9_writes_11 (by decide) ?_
    refine V_is (pc := 12) (fun y => [(0, .ref m), (1, .int l), (2, .int r), (3, .int al), (4, .int ar), (5, .int s), (6, .int y)]) dX9_writes_12 (by decide) (fun _ => rfl) (fun y12 ey12 => ?_)
    obtain rfl : y12 = nI 0 := ey12
    have e0 : uA A (shP (A 288) 0) = A := by
      have : shP (A 288) 0 = A 288 := by funext k; unfold shP; rw [if_neg (by omega)]
      rw [this]; exact uA_self A
    rw [← e0]
    exact m_writes_L hM rfl (by rw [hn, h20]) h 95 0 (by omega)
noncomputable def wear1 (τ : Nat → Int32) (nt k : Nat) : Nat → Int32 := upd (upd τ (14 + 4 * k + 2) (τ (14 + 4 * k + 2) - floss τ nt k (τ (14 + 4 * k + 2)) (τ (14 + 4 * k + 3)))) (14 + 4 * k + 3) (τ (14 + 4 * k + 3) + 1)
noncomputable def wr (σ : Nat → Int32) (nt : Nat) (set : Int32) : Nat → Nat → Int32
  | 0 => σ
  | k + 1 => if sb set k = 1 then wear1 (wr σ nt set k) nt k else wr σ nt set k
theorem wr_mk (σ : Nat → Int32) (nt : Nat) (set : Int32) : ∀ k, k ≤ 10 → mk σ (wr σ nt set k)
  | 0, _ => mk.rf
  | k + 1, hk => by
    have ih := wr_mk σ nt set k (by omega)
    unfold wr
    split
    · exact (ih.up (by omega) _).up (by omega) _
    · exact ih
set_option maxRecDepth 100000 in
set_option maxHeartbeats 4000000 in
theorem m_weigh_L {x : pX} {d : Nat} {S : pS} {m : Nat} {as : Nat → Nat} {F : Nat → Int32} {b0 : Nat × Nat} {Q : Int32 → pS → Prop} (hM : MF S m as) {σ : Nat → Int32} {A0 : Nat → Nat → Int32} {n nt np b : Nat} {l r s : Int32} (hI : MI σ n nt np) (h : ∀ A2, sc (uA A0 (wr σ nt (l ||| r) n)) A2 → Q s (mP S m as A2 F)) : ∀ (c k : Nat), k + c = n → ∀ (A : Nat → Nat → Int32), sc (uA A0 (wr σ nt (l ||| r) k)) A → V x (d + 5) M_X9_weigh (qi Q) b0 52 [(0, .ref m), (1, .int (nI b)), (2, .int l), (3, .int r), (4, .int s), (5, .int (nI k))] [] (mP S m as A F) := by
  intro c
  induction c with
  | zero =>
    intro k hk A hA
    have hn10 := hI.1.2
    have eA : A 288 = wr σ nt (l ||| r) k := by rw [sc_self hA, uA_at]
    have hIA : MI (A 288) n nt np := by rw [eA]; exact hI.same (wr_mk σ nt _ k (by omega))
    have e0 := hIA.1.1
    refine V_il (pc := 52) dX9_weigh_52 rfl ?_
    refine V_aln (pc := 54) dX9_weigh_54 rfl rfl ?_
    refine M_gr (pc := 55) hM 0 288 dX9_weigh_55 (FL_X9_7 rfl) rfl rfl (by decide) ?_
    refine V_iconst (pc := 58) (v := 0) dX9_weigh_58 (by decide) ?_
    refine M_ia (pc := 59) hM 288 0 dX9_weigh_59 (by decide) (by decide) (by simp only [fa_lit, nI_add, pk_mul]) (by show (_ : Nat) < 3154; omega) ?_
    refine V_cge (pc := 60) (t := 118) dX9_weigh_60 (by decide) (fun h60 => ?_) (fun h60 => ?_)
    · refine V_il (pc := 118) dX9_weigh_118 rfl ?_
      refine V_iret (pc := 120) dX9_weigh_120 rfl rfl ?_
      obtain rfl : k = n := by omega
      exact h A hA
    · exact absurd (by rw [e0]; exact nI_le (by omega) (by omega)) h60
  | succ c ih =>
    intro k hk A hA
    have hn10 := hI.1.2
    have eA : A 288 = wr σ nt (l ||| r) k := by rw [sc_self hA, uA_at]
    have hIA : MI (A 288) n nt np := by rw [eA]; exact hI.same (wr_mk σ nt _ k (by omega))
    have e0 := hIA.1.1
    refine V_il (pc := 52) dX9_weigh_52 rfl ?_
    refine V_aln (pc := 54) dX9_weigh_54 rfl rfl ?_
    refine M_gr (pc := 55) hM 0 288 dX9_weigh_55 (FL_X9_7 rfl) rfl rfl (by decide) ?_
    refine V_iconst (pc := 58) (v := 0) dX9_weigh_58 (by decide) ?_
    refine M_ia (pc := 59) hM 288 0 dX9_weigh_59 (by decide) (by decide) (by simp only [fa_lit, nI_add, pk_mul]) (by show (_ : Nat) < 3154; omega) ?_
    refine V_cge (pc := 60) (t := 118) dX9_weigh_60 (by decide) (fun h60 => ?_) (fun h60 => ?_)
    · exact absurd h60 (by rw [e0]; exact nI_ge (by omega) (by omega))
    · refine V_iln (pc := 63) dX9_weigh_63 rfl rfl ?_
      refine V_iln (pc := 64) dX9_weigh_64 rfl rfl ?_
      refine V_ior (pc := 65) dX9_weigh_65 ?_
      refine V_il (pc := 66) dX9_weigh_66 rfl ?_
      refine V_ishr (pc := 68) dX9_weigh_68 ?_
      refine V_iconst (pc := 69) (v := 1) dX9_weigh_69 (by decide) ?_
      refine V_iand (pc := 70) dX9_weigh_70 ?_
      refine V_iconst (pc := 71) (v := 1) dX9_weigh_71 (by decide) ?_
      refine V_cne (pc := 72) (t := 112) dX9_weigh_72 (by decide) (fun h72 => ?_) (fun h72 => ?_)
      · refine V_inc (pc := 112) (fun y => [(0, .ref m), (1, .int (nI b)), (2, .int l), (3, .int r), (4, .int s), (5, .int y)]) (w := 1) dX9_weigh_112 (by decide) (by decide) rfl (fun _ => rfl) (fun y112 ey112 => ?_)
        obtain rfl : y112 = nI (k + 1) := by rw [ey112]; exact nI_1 _
        refine V_goto (pc := 115) (t := 52) dX9_weigh_115 (by decide) ?_
        refine ih (k + 1) (by omega) _ ?_
        show sc (uA A0 (if sb (l ||| r) k = 1 then wear1 (wr σ nt (l ||| r) k) nt k else wr σ nt (l ||| r) k)) _
        first
          | (rw [if_neg (show ¬ sb (l ||| r) k = 1 from h72)]; exact hA)
          | (rw [if_pos (show sb (l ||| r) k = 1 from h72), uA_uA]
             have e2 : A2 288 = wr σ nt (l ||| r) k := by rw [sc_self hs, eA]
             rw [uA_at, e2, eA, pk_un (show 14 + 4 * k + 3 ≠ 14 + 4 * k + 2 by omega)]
             exact fun f a b => by
               by_cases hf : f = 288
               · subst hf; rw [uA_at, uA_at]; rfl
               · rw [uA_ne _ _ hf, uA_ne _ _ hf, hs f a b, hA f a b, uA_ne _ _ hf])
      · refine V_aln (pc := 75) dX9_weigh_75 rfl rfl ?_
        refine V_il (pc := 76) dX9_weigh_76 rfl ?_
        refine V_iconst (pc := 78) (v := 2) dX9_weigh_78 (by decide) ?_
        refine V_aln (pc := 79) dX9_weigh_79 rfl rfl ?_
        refine V_il (pc := 80) dX9_weigh_80 rfl ?_
        refine V_iconst (pc := 82) (v := 2) dX9_weigh_82 (by decide) ?_
        refine V_cVi0 (pc := 83) (jc_X9_67 dX9_weigh_83 rfl) rfl rfl (Nat.le_of_ble_eq_true rfl) (mF_k hM) ?_
        refine m_of hM (i := k) (j := 2) (by omega) ?_
        refine V_aln (pc := 86) dX9_weigh_86 rfl rfl ?_
        refine V_il (pc := 87) dX9_weigh_87 rfl ?_
        refine V_cVi0 (pc := 89) (jc_X9_102 dX9_weigh_89 rfl) rfl rfl (Nat.le_of_ble_eq_true rfl) (mF_k hM) ?_
        refine m_loses hM hIA (w := k) (by omega) (fun A2 hs => ?_)
        refine V_isub (pc := 92) dX9_weigh_92 ?_
        refine V_cVv0 (pc := 93) (jc_X9_74 dX9_weigh_93 rfl) rfl rfl (Nat.le_of_ble_eq_true rfl) (mF_k hM) ?_
        refine m_sets hM (i := k) (j := 2) (by omega) ?_
        refine V_aln (pc := 96) dX9_weigh_96 rfl rfl ?_
        refine V_il (pc := 97) dX9_weigh_97 rfl ?_
        refine V_iconst (pc := 99) (v := 3) dX9_weigh_99 (by decide) ?_
        refine V_aln (pc := 100) dX9_weigh_100 rfl rfl ?_
        refine V_il (pc := 101) dX9_weigh_101 rfl ?_
        refine V_iconst (pc := 103) (v := 3) dX9_weigh_103 (by decide) ?_
        refine V_cVi0 (pc := 104) (jc_X9_67 dX9_weigh_104 rfl) rfl rfl (Nat.le_of_ble_eq_true rfl) (mF_k hM) ?_
        refine m_of hM (i := k) (j := 3) (by omega) ?_
        refine V_iconst (pc := 107) (v := 1) dX9_weigh_107 (by decide) ?_
        refine V_iadd (pc := 108) dX9_weigh_108 ?_
        refine V_cVv0 (pc := 109) (jc_X9_74 dX9_weigh_109 rfl) rfl rfl (Nat.le_of_ble_eq_true rfl) (mF_k hM) ?_
        refine m_sets hM (i := k) (j := 3) (by omega) ?_
        refine V_inc (pc := 112) (fun y => [(0, .ref m), (1, .int (nI b)), (2, .int l), (3, .int r), (4, .int s), (5, .int y)]) (w := 1) dX9_weigh_112 (by decide) (by decide) rfl (fun _ => rfl) (fun y112 ey112 => ?_)
        obtain rfl : y112 = nI (k + 1) := by rw [ey112]; exact nI_1 _
        refine V_goto (pc := 115) (t := 52) dX9_weigh_115 (by decide) ?_
        refine ih (k + 1) (by omega) _ ?_
        show sc (uA A0 (if sb (l ||| r) k = 1 then wear1 (wr σ nt (l ||| r) k) nt k else wr σ nt (l ||| r) k)) _
        first
          | (rw [if_neg (show ¬ sb (l ||| r) k = 1 from h72)]; exact hA)
          | (rw [if_pos (show sb (l ||| r) k = 1 from h72), uA_uA]
             have e2 : A2 288 = wr σ nt (l ||| r) k := by rw [sc_self hs, eA]
             rw [uA_at, e2, eA, pk_un (show 14 + 4 * k + 3 ≠ 14 + 4 * k + 2 by omega)]
             exact fun f a b => by
               by_cases hf : f = 288
               · subst hf; rw [uA_at, uA_at]; rfl
               · rw [uA_ne _ _ hf, uA_ne _ _ hf, hs f a b, hA f a b, uA_ne _ _ hf])
noncomputable def o_weigh (σ : Nat → Int32) (n nt np : Nat) (b l r : Int32) : Int32 × (Nat → Int32) := if o_said σ n b l r < 0 then (o_said σ n b l r, σ) else (o_said σ n b l r, wr (sPage σ np l r (σ (6 + 2 * b.toNatClampNeg)) (σ (6 + 2 * b.toNatClampNeg + 1)) (o_said σ n b l r)) nt (l ||| r) n)
theorem pg5_mk {σ : Nat → Int32} {n nt np q : Nat} (h : MI σ n nt np) (hq : q < 20) (l r al ar s : Int32) : MI (pg5 σ q l r al ar s) n nt (q + 1) := by
  obtain ⟨h1, h2, h3, h4⟩ := h
  have e : ∀ k, (k = 0 ∨ k = 1 ∨ 154 ≤ k) → pg5 σ q l r al ar s k = σ k := fun k hk => by
    unfold pg5
    rw [pk_un (by omega), pk_un (by omega), pk_un (by omega), pk_un (by omega), pk_un (by omega), pk_un (by omega)]
  refine ⟨⟨by rw [e 0 (by omega)]; exact h1.1, h1.2⟩, ⟨by rw [e 1 (by omega)]; exact h2.1, h2.2⟩, ⟨pk_us, by omega⟩, fun t ht => ?_⟩
  obtain ⟨many, hw⟩ := h4 t ht
  exact ⟨many, wfT_same (fun k hk => e k (by omega)) hw⟩
theorem sh_MI {σ : Nat → Int32} {n nt np : Nat} (h : MI σ n nt np) : MI (upd (shP σ 95) 5 (nI 19)) n nt 19 := by
  obtain ⟨h1, h2, h3, h4⟩ := h
  have e : ∀ k, (k = 0 ∨ k = 1 ∨ 154 ≤ k) → upd (shP σ 95) 5 (nI 19) k = σ k := fun k hk => by
    rw [pk_un (by omega)]; unfold shP; rw [if_neg (by omega)]
  refine ⟨⟨by rw [e 0 (by omega)]; exact h1.1, h1.2⟩, ⟨by rw [e 1 (by omega)]; exact h2.1, h2.2⟩, ⟨pk_us, by omega⟩, fun t ht => ?_⟩
  obtain ⟨many, hw⟩ := h4 t ht
  exact ⟨many, wfT_same (fun k hk => e k (by omega)) hw⟩
theorem sPage_MI {σ : Nat → Int32} {n nt np : Nat} (h : MI σ n nt np) (l r al ar s : Int32) : MI (sPage σ np l r al ar s) n nt (min (np + 1) 20) := by
  have h20 := h.2.2.1.2
  unfold sPage
  split
  · rename_i q
    rw [show min (np + 1) 20 = 19 + 1 by omega]
    exact pg5_mk (sh_MI h) (by decide) l r al ar s
  · rw [show min (np + 1) 20 = np + 1 by omega]
    exact pg5_mk h (by omega) l r al ar s
theorem o_said_b {σ : Nat → Int32} {n : Nat} {b l r : Int32} (h : ¬ o_said σ n b l r < 0) : 0 ≤ b.toInt ∧ b.toInt ≤ 3 := by
  by_cases q : o_may n b l r = 0
  · exact o_may_0 q
  · exfalso
    apply h
    unfold o_said
    rw [if_pos q]
    unfold o_may at q ⊢
    split
    · split
      · decide
      · rename_i q1 q2; rw [if_pos q1, if_neg q2] at q; exact absurd rfl q
    · decide
set_option maxRecDepth 100000 in
set_option maxHeartbeats 4000000 in
theorem M_weigh {x : pX} {d : Nat} {S : pS} {m : Nat} {as : Nat → Nat} {A : Nat → Nat → Int32} {F : Nat → Int32} {Q : Int32 → pS → Prop} (hM : MF S m as) {n nt np : Nat} {b l r : Int32} (hI : MI (A 288) n nt np) (h : ∀ A2, sc (uA A (o_weigh (A 288) n nt np b l r).2) A2 → Q (o_weigh (A 288) n nt np b l r).1 (mP S m as A2 F)) : PI x (d + 5) M_X9_weigh [.ref m, .int b, .int l, .int r] (mP S m as A F) Q := by
  have hn10 := hI.1.2
  refine PM_of (by decide +kernel) (Nat.le_of_ble_eq_true rfl) ?_
  show V x (d + 5) M_X9_weigh (qi Q) (0, 0) 0 [(0, .ref m), (1, .int b), (2, .int l), (3, .int r)] [] (mP S m as A F)
  refine V_aln (pc := 0) dX9_weigh_0 rfl rfl ?_
  refine V_iln (pc := 1) dX9_weigh_1 rfl rfl ?_
  refine V_iln (pc := 2) dX9_weigh_2 rfl rfl ?_
  refine V_iln (pc := 3) dX9_weigh_3 rfl rfl ?_
  refine V_cVi0 (pc := 4) (jc_X9_147 dX9_weigh_4 rfl) rfl rfl (Nat.le_of_ble_eq_true rfl) (mF_k hM) ?_
  refine m_said hM hI.1.1 hn10 ?_
  refine V_is (pc := 7) (fun y => [(0, .ref m), (1, .int b), (2, .int l), (3, .int r), (4, .int y)]) dX9_weigh_7 (by decide) (fun _ => rfl) (fun y7 ey7 => ?_)
  refine V_il (pc := 9) dX9_weigh_9 rfl ?_
  refine V_ge (pc := 11) (t := 17) dX9_weigh_11 (by decide) (fun h11 => ?_) (fun h11 => ?_)
  · have hb := o_said_b (by rw [← ey7]; exact Int32.not_lt.mpr h11)
    unfold o_weigh at h; rw [if_neg (by rw [← ey7]; exact Int32.not_lt.mpr h11), ← ey7] at h
    obtain ⟨i, hi, e, e2, e3⟩ := idx_of (w := b) (n := 4) (by decide) hb.1 (by omega)
    subst e
    rw [e3] at h
    refine V_aln (pc := 17) dX9_weigh_17 rfl rfl ?_
    refine V_iln (pc := 18) dX9_weigh_18 rfl rfl ?_
    refine V_iln (pc := 19) dX9_weigh_19 rfl rfl ?_
    refine V_aln (pc := 20) dX9_weigh_20 rfl rfl ?_
    refine M_gr (pc := 21) hM 0 288 dX9_weigh_21 (FL_X9_7 rfl) rfl rfl (by decide) ?_
    refine V_bipush (pc := 24) (v := 6) dX9_weigh_24 (by decide) ?_
    refine V_iconst (pc := 26) (v := 2) dX9_weigh_26 (by decide) ?_
    refine V_iln (pc := 27) dX9_weigh_27 rfl rfl ?_
    refine V_imul (pc := 28) dX9_weigh_28 ?_
    refine V_iadd (pc := 29) dX9_weigh_29 ?_
    refine M_ia (pc := 30) hM 288 (6 + 2 * i) dX9_weigh_30 (by decide) (by decide) (by simp only [fa_lit, nI_add, pk_mul]) (by show (_ : Nat) < 3154; omega) ?_
    refine V_aln (pc := 31) dX9_weigh_31 rfl rfl ?_
    refine M_gr (pc := 32) hM 0 288 dX9_weigh_32 (FL_X9_7 rfl) rfl rfl (by decide) ?_
    refine V_bipush (pc := 35) (v := 6) dX9_weigh_35 (by decide) ?_
    refine V_iconst (pc := 37) (v := 2) dX9_weigh_37 (by decide) ?_
    refine V_iln (pc := 38) dX9_weigh_38 rfl rfl ?_
    refine V_imul (pc := 39) dX9_weigh_39 ?_
    refine V_iadd (pc := 40) dX9_weigh_40 ?_
    refine V_iconst (pc := 41) (v := 1) dX9_weigh_41 (by decide) ?_
    refine V_iadd (pc := 42) dX9_weigh_42 ?_
    refine M_ia (pc := 43) hM 288 ((6 + 2 * i) + 1) dX9_weigh_43 (by decide) (by decide) (by simp only [fa_lit, nI_add, pk_mul]) (by show (_ : Nat) < 3154; omega) ?_
    refine V_il (pc := 44) dX9_weigh_44 rfl ?_
    refine V_cVv0 (pc := 46) (jc_X9_150 dX9_weigh_46 rfl) rfl rfl (Nat.le_of_ble_eq_true rfl) (mF_k hM) ?_
    refine m_writes hM hI.2.2.1.1 hI.2.2.1.2 ?_
    refine V_iconst (pc := 49) (v := 0) dX9_weigh_49 (by decide) ?_
    refine V_is (pc := 50) (fun y => [(0, .ref m), (1, .int (nI i)), (2, .int l), (3, .int r), (4, .int y7), (5, .int y)]) dX9_weigh_50 (by decide) (fun _ => rfl) (fun y50 ey50 => ?_)
    obtain rfl : y50 = nI 0 := ey50
    refine m_weigh_L (A0 := A) (np := min (np + 1) 20) hM (sPage_MI hI _ _ _ _ _) h n 0 (by omega) _ ?_
    exact sc.rf
  · unfold o_weigh at h; rw [if_pos (by rw [← ey7]; exact Int32.not_le.mp h11), uA_self, ← ey7] at h
    refine V_il (pc := 14) dX9_weigh_14 rfl ?_
    refine V_iret (pc := 16) dX9_weigh_16 rfl rfl ?_
    exact h A sc.rf

noncomputable def sFall (σ : Nat → Int32) (nt w : Nat) : Nat → Int32 := upd σ (14 + 4 * w + 2) (σ (14 + 4 * w + 2) - ffall σ nt w)
noncomputable def o_fall (σ : Nat → Int32) (n nt : Nat) (w : Int32) : Int32 × (Nat → Int32) := if 0 ≤ w.toInt ∧ w.toInt < n then (ffall σ nt w.toNatClampNeg, sFall σ nt w.toNatClampNeg) else (-1000000001, σ)
def ftook (g k : Int32) : Int32 := if k < 999 - g then k else 999 - g
def sTake (σ : Nat → Int32) (w : Nat) (k : Int32) : Nat → Int32 := upd (upd σ (14 + 4 * w + 2) (σ (14 + 4 * w + 2) + ftook (σ (14 + 4 * w + 2)) k)) 2 (hld (σ 2 + ftook (σ (14 + 4 * w + 2)) k) 99999)
def o_shoot (σ : Nat → Int32) (n : Nat) (w k : Int32) : Int32 × (Nat → Int32) := if 0 ≤ w.toInt ∧ w.toInt < n ∧ 1 ≤ k.toInt ∧ k.toInt ≤ 999 then (ftook (σ (14 + 4 * w.toNatClampNeg + 2)) k, sTake σ w.toNatClampNeg k) else (-1000000001, σ)
set_option maxRecDepth 100000 in
set_option maxHeartbeats 4000000 in
theorem m_falls {x : pX} {d : Nat} {S : pS} {m : Nat} {as : Nat → Nat} {A : Nat → Nat → Int32} {F : Nat → Int32} {Q : Int32 → pS → Prop} (hM : MF S m as) {n nt np w : Nat} (hI : MI (A 288) n nt np) (hw : w < 10) (h : ∀ A2, sc (uA A (sFall (A 288) nt w)) A2 → Q (ffall (A 288) nt w) (mP S m as A2 F)) : PI x (d + 6) M_X9_falls [.ref m, .int (nI w)] (mP S m as A F) Q := by
  refine PM_of (by decide +kernel) (Nat.le_of_ble_eq_true rfl) ?_
  show V x (d + 6) M_X9_falls (qi Q) (0, 0) 0 [(0, .ref m), (1, .int (nI w))] [] (mP S m as A F)
  refine V_aln (pc := 0) dX9_falls_0 rfl rfl ?_
  refine V_iln (pc := 1) dX9_falls_1 rfl rfl ?_
  refine V_cVi0 (pc := 2) (jc_X9_109 dX9_falls_2 rfl) rfl rfl (Nat.le_of_ble_eq_true rfl) (mF_k hM) ?_
  refine m_losesAtFall hM hI hw (fun A2 hs => ?_)
  refine V_isn (pc := 5) (fun y => [(0, .ref m), (1, .int (nI w)), (2, .int y)]) dX9_falls_5 rfl (by decide) (fun _ => rfl) (fun y5 ey5 => ?_)
  refine V_aln (pc := 6) dX9_falls_6 rfl rfl ?_
  refine V_iln (pc := 7) dX9_falls_7 rfl rfl ?_
  refine V_iconst (pc := 8) (v := 2) dX9_falls_8 (by decide) ?_
  refine V_aln (pc := 9) dX9_falls_9 rfl rfl ?_
  refine V_iln (pc := 10) dX9_falls_10 rfl rfl ?_
  refine V_iconst (pc := 11) (v := 2) dX9_falls_11 (by decide) ?_
  refine V_cVi0 (pc := 12) (jc_X9_67 dX9_falls_12 rfl) rfl rfl (Nat.le_of_ble_eq_true rfl) (mF_k hM) ?_
  refine m_of hM (i := w) (j := 2) (by omega) ?_
  refine V_iln (pc := 15) dX9_falls_15 rfl rfl ?_
  refine V_isub (pc := 16) dX9_falls_16 ?_
  refine V_cVv0 (pc := 17) (jc_X9_74 dX9_falls_17 rfl) rfl rfl (Nat.le_of_ble_eq_true rfl) (mF_k hM) ?_
  refine m_sets hM (i := w) (j := 2) (by omega) ?_
  refine V_iln (pc := 20) dX9_falls_20 rfl rfl ?_
  refine V_iret (pc := 21) dX9_falls_21 rfl rfl ?_
  subst ey5
  rw [sc_self hs]
  exact h _ (hs.u _)
set_option maxRecDepth 100000 in
set_option maxHeartbeats 4000000 in
theorem M_fall {x : pX} {d : Nat} {S : pS} {m : Nat} {as : Nat → Nat} {A : Nat → Nat → Int32} {F : Nat → Int32} {Q : Int32 → pS → Prop} (hM : MF S m as) {n nt np : Nat} {w : Int32} (hI : MI (A 288) n nt np) (h : ∀ A2, sc (uA A (o_fall (A 288) n nt w).2) A2 → Q (o_fall (A 288) n nt w).1 (mP S m as A2 F)) : PI x (d + 7) M_X9_fall [.ref m, .int w] (mP S m as A F) Q := by
  have hn10 := hI.1.2
  refine PM_of (by decide +kernel) (Nat.le_of_ble_eq_true rfl) ?_
  show V x (d + 7) M_X9_fall (qi Q) (0, 0) 0 [(0, .ref m), (1, .int w)] [] (mP S m as A F)
  refine V_aln (pc := 0) dX9_fall_0 rfl rfl ?_
  refine V_iln (pc := 1) dX9_fall_1 rfl rfl ?_
  refine V_cVi0 (pc := 2) (jc_X9_105 dX9_fall_2 rfl) rfl rfl (Nat.le_of_ble_eq_true rfl) (mF_k hM) ?_
  refine m_isWeight hM hI.1.1 (by omega) (fun i hi ei ti ci => ?_) (fun ni => ?_)
  · subst ei
    refine V_eq (pc := 5) (t := 16) dX9_fall_5 (by decide) (fun h => absurd h (by decide)) (fun _ => ?_)
    refine V_aln (pc := 8) dX9_fall_8 rfl rfl ?_
    refine V_iln (pc := 9) dX9_fall_9 rfl rfl ?_
    refine V_cVi0 (pc := 10) (jc_X9_154 dX9_fall_10 rfl) rfl rfl (Nat.le_of_ble_eq_true rfl) (mF_k hM) ?_
    unfold o_fall at h; rw [if_pos (by omega), ci] at h
    refine m_falls hM hI (by omega) (fun A2 hs => ?_)
    refine V_goto (pc := 13) (t := 18) dX9_fall_13 (by decide) ?_
    refine V_iret (pc := 18) dX9_fall_18 rfl rfl ?_
    first | exact h A2 hs | (unfold o_fall at h; rw [if_neg (by omega), uA_self] at h; exact h A sc.rf)
  · refine V_eq (pc := 5) (t := 16) dX9_fall_5 (by decide) (fun _ => ?_) (fun h => absurd h (by decide))
    refine V_ldc (pc := 16) dX9_fall_16 (KC_X9_82 rfl) ?_
    refine V_iret (pc := 18) dX9_fall_18 rfl rfl ?_
    first | exact h A2 hs | (unfold o_fall at h; rw [if_neg (by omega), uA_self] at h; exact h A sc.rf)
set_option maxRecDepth 100000 in
set_option maxHeartbeats 4000000 in
theorem m_takes {x : pX} {d : Nat} {S : pS} {m : Nat} {as : Nat → Nat} {A : Nat → Nat → Int32} {F : Nat → Int32} {Q : Int32 → pS → Prop} (hM : MF S m as) {w : Nat} {k : Int32} (hw : w < 10) (h : Q (ftook (A 288 (14 + 4 * w + 2)) k) (mP S m as (uA A (sTake (A 288) w k)) F)) : PI x (d + 2) M_X9_takes [.ref m, .int (nI w), .int k] (mP S m as A F) Q := by
  refine PM_of (by decide +kernel) (Nat.le_of_ble_eq_true rfl) ?_
  show V x (d + 2) M_X9_takes (qi Q) (0, 0) 0 [(0, .ref m), (1, .int (nI w)), (2, .int k)] [] (mP S m as A F)
  refine V_sipush (pc := 0) (v := 999) dX9_takes_0 (by decide) ?_
  refine V_aln (pc := 3) dX9_takes_3 rfl rfl ?_
  refine V_iln (pc := 4) dX9_takes_4 rfl rfl ?_
  refine V_iconst (pc := 5) (v := 2) dX9_takes_5 (by decide) ?_
  refine V_cVi0 (pc := 6) (jc_X9_67 dX9_takes_6 rfl) rfl rfl (Nat.le_of_ble_eq_true rfl) (mF_k hM) ?_
  refine m_of hM (i := w) (j := 2) (by omega) ?_
  refine V_isub (pc := 9) dX9_takes_9 ?_
  refine V_isn (pc := 10) (fun y => [(0, .ref m), (1, .int (nI w)), (2, .int k), (3, .int y)]) dX9_takes_10 rfl (by decide) (fun _ => rfl) (fun y10 ey10 => ?_)
  refine V_iln (pc := 11) dX9_takes_11 rfl rfl ?_
  refine V_iln (pc := 12) dX9_takes_12 rfl rfl ?_
  refine V_cge (pc := 13) (t := 20) dX9_takes_13 (by decide) (fun h13 => ?_) (fun h13 => ?_)
  · refine V_iln (pc := 20) dX9_takes_20 rfl rfl ?_
    refine V_is (pc := 21) (fun y => [(0, .ref m), (1, .int (nI w)), (2, .int k), (3, .int y10), (4, .int y)]) dX9_takes_21 (by decide) (fun _ => rfl) (fun y21 ey21 => ?_)
    have e21 : y21 = ftook (A 288 (14 + 4 * w + 2)) k := by
      unfold ftook; subst ey10; rw [ey21]; first | rw [if_pos (Int32.not_le.mp h13)] | rw [if_neg (Int32.not_lt.mpr h13)]
    subst e21
    refine V_aln (pc := 23) dX9_takes_23 rfl rfl ?_
    refine V_iln (pc := 24) dX9_takes_24 rfl rfl ?_
    refine V_iconst (pc := 25) (v := 2) dX9_takes_25 (by decide) ?_
    refine V_aln (pc := 26) dX9_takes_26 rfl rfl ?_
    refine V_iln (pc := 27) dX9_takes_27 rfl rfl ?_
    refine V_iconst (pc := 28) (v := 2) dX9_takes_28 (by decide) ?_
    refine V_cVi0 (pc := 29) (jc_X9_67 dX9_takes_29 rfl) rfl rfl (Nat.le_of_ble_eq_true rfl) (mF_k hM) ?_
    refine m_of hM (i := w) (j := 2) (by omega) ?_
    refine V_il (pc := 32) dX9_takes_32 rfl ?_
    refine V_iadd (pc := 34) dX9_takes_34 ?_
    refine V_cVv0 (pc := 35) (jc_X9_74 dX9_takes_35 rfl) rfl rfl (Nat.le_of_ble_eq_true rfl) (mF_k hM) ?_
    refine m_sets hM (i := w) (j := 2) (by omega) ?_
    refine V_aln (pc := 38) dX9_takes_38 rfl rfl ?_
    refine M_gr (pc := 39) hM 0 288 dX9_takes_39 (FL_X9_7 rfl) rfl rfl (by decide) ?_
    refine V_iconst (pc := 42) (v := 2) dX9_takes_42 (by decide) ?_
    refine V_aln (pc := 43) dX9_takes_43 rfl rfl ?_
    refine M_gr (pc := 44) hM 0 288 dX9_takes_44 (FL_X9_7 rfl) rfl rfl (by decide) ?_
    refine V_iconst (pc := 47) (v := 2) dX9_takes_47 (by decide) ?_
    refine M_ia (pc := 48) hM 288 2 dX9_takes_48 (by decide) (by decide) (by simp only [fa_lit, nI_add, pk_mul]) (by show (_ : Nat) < 3154; omega) ?_
    refine V_il (pc := 49) dX9_takes_49 rfl ?_
    refine V_iadd (pc := 51) dX9_takes_51 ?_
    refine V_ldc (pc := 52) dX9_takes_52 (KC_X9_157 rfl) ?_
    refine V_cSi0 (pc := 54) (jc_X9_95 dX9_takes_54 rfl) rfl rfl (Nat.le_of_ble_eq_true rfl) ?_
    refine m_within ?_
    refine M_iasS (pc := 57) hM 2 dX9_takes_57 (by simp only [fa_lit, nI_add, pk_mul]) (by show (_ : Nat) < 3154; omega) ?_
    refine V_il (pc := 58) dX9_takes_58 rfl ?_
    refine V_iret (pc := 60) dX9_takes_60 rfl rfl ?_
    rw [uA_at, uA_uA, pk_un (show 2 ≠ 14 + 4 * w + 2 by omega)]
    exact h
  · refine V_iln (pc := 16) dX9_takes_16 rfl rfl ?_
    refine V_goto (pc := 17) (t := 21) dX9_takes_17 (by decide) ?_
    refine V_is (pc := 21) (fun y => [(0, .ref m), (1, .int (nI w)), (2, .int k), (3, .int y10), (4, .int y)]) dX9_takes_21 (by decide) (fun _ => rfl) (fun y21 ey21 => ?_)
    have e21 : y21 = ftook (A 288 (14 + 4 * w + 2)) k := by
      unfold ftook; subst ey10; rw [ey21]; first | rw [if_pos (Int32.not_le.mp h13)] | rw [if_neg (Int32.not_lt.mpr h13)]
    subst e21
    refine V_aln (pc := 23) dX9_takes_23 rfl rfl ?_
    refine V_iln (pc := 24) dX9_takes_24 rfl rfl ?_
    refine V_iconst (pc := 25) (v := 2) dX9_takes_25 (by decide) ?_
    refine V_aln (pc := 26) dX9_takes_26 rfl rfl ?_
    refine V_iln (pc := 27) dX9_takes_27 rfl rfl ?_
    refine V_iconst (pc := 28) (v := 2) dX9_takes_28 (by decide) ?_
    refine V_cVi0 (pc := 29) (jc_X9_67 dX9_takes_29 rfl) rfl rfl (Nat.le_of_ble_eq_true rfl) (mF_k hM) ?_
    refine m_of hM (i := w) (j := 2) (by omega) ?_
    refine V_il (pc := 32) dX9_takes_32 rfl ?_
    refine V_iadd (pc := 34) dX9_takes_34 ?_
    refine V_cVv0 (pc := 35) (jc_X9_74 dX9_takes_35 rfl) rfl rfl (Nat.le_of_ble_eq_true rfl) (mF_k hM) ?_
    refine m_sets hM (i := w) (j := 2) (by omega) ?_
    refine V_aln (pc := 38) dX9_takes_38 rfl rfl ?_
    refine M_gr (pc := 39) hM 0 288 dX9_takes_39 (FL_X9_7 rfl) rfl rfl (by decide) ?_
    refine V_iconst (pc := 42) (v := 2) dX9_takes_42 (by decide) ?_
    refine V_aln (pc := 43) dX9_takes_43 rfl rfl ?_
    refine M_gr (pc := 44) hM 0 288 dX9_takes_44 (FL_X9_7 rfl) rfl rfl (by decide) ?_
    refine V_iconst (pc := 47) (v := 2) dX9_takes_47 (by decide) ?_
    refine M_ia (pc := 48) hM 288 2 dX9_takes_48 (by decide) (by decide) (by simp only [fa_lit, nI_add, pk_mul]) (by show (_ : Nat) < 3154; omega) ?_
    refine V_il (pc := 49) dX9_takes_49 rfl ?_
    refine V_iadd (pc := 51) dX9_takes_51 ?_
    refine V_ldc (pc := 52) dX9_takes_52 (KC_X9_157 rfl) ?_
    refine V_cSi0 (pc := 54) (jc_X9_95 dX9_takes_54 rfl) rfl rfl (Nat.le_of_ble_eq_true rfl) ?_
    refine m_within ?_
    refine M_iasS (pc := 57) hM 2 dX9_takes_57 (by simp only [fa_lit, nI_add, pk_mul]) (by show (_ : Nat) < 3154; omega) ?_
    refine V_il (pc := 58) dX9_takes_58 rfl ?_
    refine V_iret (pc := 60) dX9_takes_60 rfl rfl ?_
    rw [uA_at, uA_uA, pk_un (show 2 ≠ 14 + 4 * w + 2 by omega)]
    exact h
set_option maxRecDepth 100000 in
set_option maxHeartbeats 4000000 in
theorem M_shoot {x : pX} {d : Nat} {S : pS} {m : Nat} {as : Nat → Nat} {A : Nat → Nat → Int32} {F : Nat → Int32} {Q : Int32 → pS → Prop} (hM : MF S m as) {n nt np : Nat} {w k : Int32} (hI : MI (A 288) n nt np) (h : ∀ A2, sc (uA A (o_shoot (A 288) n w k).2) A2 → Q (o_shoot (A 288) n w k).1 (mP S m as A2 F)) : PI x (d + 3) M_X9_shoot [.ref m, .int w, .int k] (mP S m as A F) Q := by
  have hn10 := hI.1.2
  refine PM_of (by decide +kernel) (Nat.le_of_ble_eq_true rfl) ?_
  show V x (d + 3) M_X9_shoot (qi Q) (0, 0) 0 [(0, .ref m), (1, .int w), (2, .int k)] [] (mP S m as A F)
  refine V_aln (pc := 0) dX9_shoot_0 rfl rfl ?_
  refine V_iln (pc := 1) dX9_shoot_1 rfl rfl ?_
  refine V_cVi0 (pc := 2) (jc_X9_105 dX9_shoot_2 rfl) rfl rfl (Nat.le_of_ble_eq_true rfl) (mF_k hM) ?_
  refine m_isWeight hM hI.1.1 (by omega) (fun i hi ei ti ci => ?_) (fun ni => ?_)
  · subst ei
    refine V_eq (pc := 5) (t := 29) dX9_shoot_5 (by decide) (fun h => absurd h (by decide)) (fun _ => ?_)
    refine V_iln (pc := 8) dX9_shoot_8 rfl rfl ?_
    refine V_i2l (pc := 9) dX9_shoot_9 ?_
    refine V_lconst (pc := 10) (v := 1) dX9_shoot_10 (by decide) ?_
    refine V_ldc2 (pc := 11) dX9_shoot_11 (KC_X9_80 rfl) ?_
    refine V_cSi0 (pc := 14) (jc_X9_62 dX9_shoot_14 rfl) rfl rfl (Nat.le_of_ble_eq_true rfl) ?_
    refine m_isIn (l := 1) 1 999 (by decide) (by decide) (fun a1 a2 => ?_) (fun a0 => ?_)
    · refine V_eq (pc := 17) (t := 29) dX9_shoot_17 (by decide) (fun h => absurd h (by decide)) (fun _ => ?_)
      refine V_aln (pc := 20) dX9_shoot_20 rfl rfl ?_
      refine V_iln (pc := 21) dX9_shoot_21 rfl rfl ?_
      refine V_iln (pc := 22) dX9_shoot_22 rfl rfl ?_
      refine V_cVi0 (pc := 23) (jc_X9_158 dX9_shoot_23 rfl) rfl rfl (Nat.le_of_ble_eq_true rfl) (mF_k hM) ?_
      unfold o_shoot at h; rw [if_pos (by omega), ci] at h
      refine m_takes hM (by omega) ?_
      refine V_goto (pc := 26) (t := 31) dX9_shoot_26 (by decide) ?_
      refine V_iret (pc := 31) dX9_shoot_31 rfl rfl ?_
      first | exact h _ sc.rf | (unfold o_shoot at h; rw [if_neg (by omega), uA_self] at h; exact h A sc.rf)
    · refine V_eq (pc := 17) (t := 29) dX9_shoot_17 (by decide) (fun _ => ?_) (fun h => absurd h (by decide))
      refine V_ldc (pc := 29) dX9_shoot_29 (KC_X9_82 rfl) ?_
      refine V_iret (pc := 31) dX9_shoot_31 rfl rfl ?_
      first | exact h _ sc.rf | (unfold o_shoot at h; rw [if_neg (by omega), uA_self] at h; exact h A sc.rf)
  · refine V_eq (pc := 5) (t := 29) dX9_shoot_5 (by decide) (fun _ => ?_) (fun h => absurd h (by decide))
    refine V_ldc (pc := 29) dX9_shoot_29 (KC_X9_82 rfl) ?_
    refine V_iret (pc := 31) dX9_shoot_31 rfl rfl ?_
    first | exact h _ sc.rf | (unfold o_shoot at h; rw [if_neg (by omega), uA_self] at h; exact h A sc.rf)
def nmL (s d : Int32) : Nat → Int32 := fun c => if c = 115 then s else d
noncomputable def flaw (σ : Nat → Int32) (nt w : Nat) : Int32 := if fcnt σ 1 nt < 0 then σ (14 + 4 * w + 1) - σ (14 + 4 * w + 1) / 10 else hld (wkd σ (fcnt σ 1 nt).toNatClampNeg (σ (156 + 200 * (fcnt σ 1 nt).toNatClampNeg)).toNatClampNeg (nmL (σ (14 + 4 * w + 1)) (σ 3))) 999
set_option maxRecDepth 100000 in
set_option maxHeartbeats 4000000 in
theorem m_lawful {x : pX} {d : Nat} {S : pS} {m : Nat} {as : Nat → Nat} {A : Nat → Nat → Int32} {F : Nat → Int32} {Q : Int32 → pS → Prop} (hM : MF S m as) {n nt np w : Nat} (hI : MI (A 288) n nt np) (hw : w < 10) (h : ∀ A2, sc A A2 → Q (flaw (A 288) nt w) (mP S m as A2 F)) : PI x (d + 3) M_X9_lawful [.ref m, .int (nI w)] (mP S m as A F) Q := by
  refine PM_of (by decide +kernel) (Nat.le_of_ble_eq_true rfl) ?_
  show V x (d + 3) M_X9_lawful (qi Q) (0, 0) 0 [(0, .ref m), (1, .int (nI w))] [] (mP S m as A F)
  refine V_aln (pc := 0) dX9_lawful_0 rfl rfl ?_
  refine V_iln (pc := 1) dX9_lawful_1 rfl rfl ?_
  refine V_iconst (pc := 2) (v := 1) dX9_lawful_2 (by decide) ?_
  refine V_cVi0 (pc := 3) (jc_X9_67 dX9_lawful_3 rfl) rfl rfl (Nat.le_of_ble_eq_true rfl) (mF_k hM) ?_
  refine m_of hM (i := w) (j := 1) (by omega) ?_
  refine V_isn (pc := 6) (fun y => [(0, .ref m), (1, .int (nI w)), (2, .int y)]) dX9_lawful_6 rfl (by decide) (fun _ => rfl) (fun y6 ey6 => ?_)
  subst ey6
  refine V_aln (pc := 7) dX9_lawful_7 rfl rfl ?_
  refine V_iconst (pc := 8) (v := 1) dX9_lawful_8 (by decide) ?_
  refine V_cVi0 (pc := 9) (jc_X9_88 dX9_lawful_9 rfl) rfl rfl (Nat.le_of_ble_eq_true rfl) (mF_k hM) ?_
  refine m_counts hM hI.2.1.1 hI.2.1.2 ?_
  refine V_isn (pc := 12) (fun y => [(0, .ref m), (1, .int (nI w)), (2, .int (A 288 (14 + 4 * w + 1))), (3, .int y)]) dX9_lawful_12 rfl (by decide) (fun _ => rfl) (fun y12 ey12 => ?_)
  refine V_iln (pc := 13) dX9_lawful_13 rfl rfl ?_
  refine V_ge (pc := 14) (t := 24) dX9_lawful_14 (by decide) (fun h14 => ?_) (fun h14 => ?_)
  · obtain ⟨t, ht, hft, hkey⟩ : ∃ t, t < nt ∧ fcnt (A 288) 1 nt = nI t ∧ A 288 (154 + 200 * t) = 1 := by
      rcases fcnt_cases (A 288) 1 nt (by have := hI.2.1.2; omega) with z | z
      · exact absurd (by rw [ey12, z] at h14; exact h14) (by decide)
      · exact z
    obtain rfl : y12 = nI t := ey12.trans hft
    refine V_aln (pc := 24) dX9_lawful_24 rfl rfl ?_
    refine M_gr (pc := 25) hM 24 312 dX9_lawful_25 (FL_X9_46 rfl) rfl rfl (by decide) ?_
    refine V_bipush (pc := 28) (v := 115) dX9_lawful_28 (by decide) ?_
    refine V_iln (pc := 30) dX9_lawful_30 rfl rfl ?_
    refine M_ias (pc := 31) hM 312 115 dX9_lawful_31 (by decide) (by decide) (by simp only [fa_lit, nI_add, pk_mul]) (by show (_ : Nat) < 128; omega) ?_
    refine V_aln (pc := 32) dX9_lawful_32 rfl rfl ?_
    refine M_gr (pc := 33) hM 24 312 dX9_lawful_33 (FL_X9_46 rfl) rfl rfl (by decide) ?_
    refine V_bipush (pc := 36) (v := 100) dX9_lawful_36 (by decide) ?_
    refine V_aln (pc := 38) dX9_lawful_38 rfl rfl ?_
    refine M_gr (pc := 39) hM 0 288 dX9_lawful_39 (FL_X9_7 rfl) rfl rfl (by decide) ?_
    refine V_iconst (pc := 42) (v := 3) dX9_lawful_42 (by decide) ?_
    refine M_ia (pc := 43) hM 288 3 dX9_lawful_43 (by decide) (by decide) (by simp only [fa_lit, nI_add, pk_mul]) (by show (_ : Nat) < 3154; omega) ?_
    refine M_ias (pc := 44) hM 312 100 dX9_lawful_44 (by decide) (by decide) (by simp only [fa_lit, nI_add, pk_mul]) (by show (_ : Nat) < 128; omega) ?_
    refine V_aln (pc := 45) dX9_lawful_45 rfl rfl ?_
    refine V_iln (pc := 46) dX9_lawful_46 rfl rfl ?_
    refine V_cVi0 (pc := 47) (jc_X9_92 dX9_lawful_47 rfl) rfl rfl (Nat.le_of_ble_eq_true rfl) (mF_k hM) ?_
    obtain ⟨many, hwf⟩ := hI.2.2.2 t ht
    have ew : ∀ r1 r2 : Nat → Int32, va_up (va_up A 312 r1) 312 r2 288 = A 288 := fun r1 r2 => by rw [va_up_ne _ _ (by decide), va_up_ne _ _ (by decide)]
    refine m_worked (A := va_up (va_up A 312 (upd (A 312) 115 (A 288 (14 + 4 * w + 1)))) 312 (upd (va_up A 312 (upd (A 312) 115 (A 288 (14 + 4 * w + 1))) 312) 100 (va_up A 312 (upd (A 312) 115 (A 288 (14 + 4 * w + 1))) 288 3))) (t := t) (many := many) (nm := nmL (A 288 (14 + 4 * w + 1)) (A 288 3)) hM ?_ (by have := hI.2.1.2; omega) ?_ (fun A2 hs => ?_)
    · rw [ew]; exact hwf
    · rw [ew, hkey]
      intro c hc
      have e2 : ∀ r1 : Nat → Int32, va_up A 312 r1 288 = A 288 := fun r1 => va_up_ne _ _ (by decide)
      rw [va_up_self, va_up_self, e2]
      unfold nmL
      have hc2 : c = 115 ∨ c = 100 := by
        rcases hc with ⟨z, -⟩ | ⟨-, z⟩ | ⟨z, -⟩
        · exact absurd z (by decide)
        · exact z
        · exact absurd z (by decide)
      rcases hc2 with rfl | rfl
      · rw [pk_un (by decide), pk_us]; rfl
      · rw [pk_us]; rfl
    refine V_sipush (pc := 50) (v := 999) dX9_lawful_50 (by decide) ?_
    refine V_cSi0 (pc := 53) (jc_X9_95 dX9_lawful_53 rfl) rfl rfl (Nat.le_of_ble_eq_true rfl) ?_
    refine m_within ?_
    refine V_iret (pc := 56) dX9_lawful_56 rfl rfl ?_
    rw [ew]
    have hp : flaw (A 288) nt w = hld (wkd (A 288) t many (nmL (A 288 (14 + 4 * w + 1)) (A 288 3))) 999 := by
      unfold flaw
      rw [if_neg (by rw [hft]; exact nI_pos (by have := hI.2.1.2; omega)), hft, nI_clamp (by have := hI.2.1.2; omega), hwf.1, nI_clamp (by have := hwf.2.2.1; omega)]
    rw [← hp]
    exact h A2 (fun f a b => by rw [hs f a b, va_up_ne _ _ a, va_up_ne _ _ a])
  · have hp : flaw (A 288) nt w = A 288 (14 + 4 * w + 1) - A 288 (14 + 4 * w + 1) / 10 := by unfold flaw; rw [if_pos (by rw [← ey12]; exact Int32.not_le.mp h14)]
    refine V_iln (pc := 17) dX9_lawful_17 rfl rfl ?_
    refine V_iln (pc := 18) dX9_lawful_18 rfl rfl ?_
    refine V_bipush (pc := 19) (v := 10) dX9_lawful_19 (by decide) ?_
    refine V_idiv (pc := 21) dX9_lawful_21 (by decide) ?_
    refine V_isub (pc := 22) dX9_lawful_22 ?_
    refine V_iret (pc := 23) dX9_lawful_23 rfl rfl ?_
    rw [← hp]; exact h A sc.rf
noncomputable def monS (σ : Nat → Int32) (nt : Nat) : Nat → (Nat → Int32) × Int32
  | 0 => (σ, 0)
  | k + 1 => if 0 < flaw (monS σ nt k).1 nt k - (monS σ nt k).1 (14 + 4 * k + 2) then (sTake (monS σ nt k).1 k (flaw (monS σ nt k).1 nt k - (monS σ nt k).1 (14 + 4 * k + 2)), (monS σ nt k).2 + ftook ((monS σ nt k).1 (14 + 4 * k + 2)) (flaw (monS σ nt k).1 nt k - (monS σ nt k).1 (14 + 4 * k + 2))) else monS σ nt k
theorem sTake_mk {σ τ : Nat → Int32} (h : mk σ τ) {w : Nat} (hw : w < 10) (k : Int32) : mk σ (sTake τ w k) := (h.up (by omega) _).up (by omega) _
theorem monS_mk (σ : Nat → Int32) (nt : Nat) : ∀ k, k ≤ 10 → mk σ (monS σ nt k).1
  | 0, _ => mk.rf
  | k + 1, hk => by
    have ih := monS_mk σ nt k (by omega)
    unfold monS
    split
    · exact sTake_mk ih (by omega) _
    · exact ih
set_option maxRecDepth 100000 in
set_option maxHeartbeats 4000000 in
theorem m_monday_L {x : pX} {d : Nat} {S : pS} {m : Nat} {as : Nat → Nat} {F : Nat → Int32} {b : Nat × Nat} {Q : Int32 → pS → Prop} (hM : MF S m as) {σ : Nat → Int32} {A0 : Nat → Nat → Int32} {n nt np : Nat} (hI : MI σ n nt np) (h : ∀ A2, sc (uA A0 (monS σ nt n).1) A2 → Q (monS σ nt n).2 (mP S m as A2 F)) : ∀ (c k : Nat), k + c = n → ∀ (A : Nat → Nat → Int32), sc (uA A0 (monS σ nt k).1) A → V x (d + 4) M_X9_monday (qi Q) b 4 [(0, .ref m), (1, .int ((monS σ nt k).2)), (2, .int (nI k))] [] (mP S m as A F) := by
  intro c
  induction c with
  | zero =>
    intro k hk A hA
    have hn10 := hI.1.2
    have eA : A 288 = (monS σ nt k).1 := by rw [sc_self hA, uA_at]
    have hIA : MI (A 288) n nt np := by rw [eA]; exact hI.same (monS_mk σ nt k (by omega))
    have e0 := hIA.1.1
    refine V_iln (pc := 4) dX9_monday_4 rfl rfl ?_
    refine V_aln (pc := 5) dX9_monday_5 rfl rfl ?_
    refine M_gr (pc := 6) hM 0 288 dX9_monday_6 (FL_X9_7 rfl) rfl rfl (by decide) ?_
    refine V_iconst (pc := 9) (v := 0) dX9_monday_9 (by decide) ?_
    refine M_ia (pc := 10) hM 288 0 dX9_monday_10 (by decide) (by decide) (by simp only [fa_lit, nI_add, pk_mul]) (by show (_ : Nat) < 3154; omega) ?_
    refine V_cge (pc := 11) (t := 50) dX9_monday_11 (by decide) (fun h11 => ?_) (fun h11 => ?_)
    · refine V_iln (pc := 50) dX9_monday_50 rfl rfl ?_
      refine V_iret (pc := 51) dX9_monday_51 rfl rfl ?_
      obtain rfl : k = n := by omega
      exact h A hA
    · exact absurd (by rw [e0]; exact nI_le (by omega) (by omega)) h11
  | succ c ih =>
    intro k hk A hA
    have hn10 := hI.1.2
    have eA : A 288 = (monS σ nt k).1 := by rw [sc_self hA, uA_at]
    have hIA : MI (A 288) n nt np := by rw [eA]; exact hI.same (monS_mk σ nt k (by omega))
    have e0 := hIA.1.1
    refine V_iln (pc := 4) dX9_monday_4 rfl rfl ?_
    refine V_aln (pc := 5) dX9_monday_5 rfl rfl ?_
    refine M_gr (pc := 6) hM 0 288 dX9_monday_6 (FL_X9_7 rfl) rfl rfl (by decide) ?_
    refine V_iconst (pc := 9) (v := 0) dX9_monday_9 (by decide) ?_
    refine M_ia (pc := 10) hM 288 0 dX9_monday_10 (by decide) (by decide) (by simp only [fa_lit, nI_add, pk_mul]) (by show (_ : Nat) < 3154; omega) ?_
    refine V_cge (pc := 11) (t := 50) dX9_monday_11 (by decide) (fun h11 => ?_) (fun h11 => ?_)
    · exact absurd h11 (by rw [e0]; exact nI_ge (by omega) (by omega))
    · refine V_aln (pc := 14) dX9_monday_14 rfl rfl ?_
      refine V_iln (pc := 15) dX9_monday_15 rfl rfl ?_
      refine V_cVi0 (pc := 16) (jc_X9_161 dX9_monday_16 rfl) rfl rfl (Nat.le_of_ble_eq_true rfl) (mF_k hM) ?_
      refine m_lawful hM hIA (w := k) (by omega) (fun A2 hs => ?_)
      refine V_aln (pc := 19) dX9_monday_19 rfl rfl ?_
      refine V_iln (pc := 20) dX9_monday_20 rfl rfl ?_
      refine V_iconst (pc := 21) (v := 2) dX9_monday_21 (by decide) ?_
      refine V_cVi0 (pc := 22) (jc_X9_67 dX9_monday_22 rfl) rfl rfl (Nat.le_of_ble_eq_true rfl) (mF_k hM) ?_
      refine m_of hM (i := k) (j := 2) (by omega) ?_
      refine V_isub (pc := 25) dX9_monday_25 ?_
      refine V_isn (pc := 26) (fun y => [(0, .ref m), (1, .int ((monS σ nt k).2)), (2, .int (nI k)), (3, .int y)]) dX9_monday_26 rfl (by decide) (fun _ => rfl) (fun y26 ey26 => ?_)
      have e26 : y26 = flaw (A 288) nt k - A 288 (14 + 4 * k + 2) := by rw [ey26, sc_self hs]
      refine V_iln (pc := 27) dX9_monday_27 rfl rfl ?_
      refine V_iln (pc := 28) dX9_monday_28 rfl rfl ?_
      refine V_le (pc := 29) (t := 41) dX9_monday_29 (by decide) (fun h29 => ?_) (fun h29 => ?_)
      · have hM1 : monS σ nt (k + 1) = monS σ nt k := by show (if _ then _ else _) = _; rw [if_neg (by rw [← eA, ← e26]; exact Int32.not_lt.mpr h29)]
        refine V_iconst (pc := 41) (v := 0) dX9_monday_41 (by decide) ?_
        refine V_iadd (pc := 42) dX9_monday_42 ?_
        refine V_isn (pc := 43) (fun y => [(0, .ref m), (1, .int y), (2, .int (nI k)), (3, .int y26)]) dX9_monday_43 rfl (by decide) (fun _ => rfl) (fun y43 ey43 => ?_)
        refine V_inc (pc := 44) (fun y => [(0, .ref m), (1, .int y43), (2, .int y), (3, .int y26)]) (w := 1) dX9_monday_44 (by decide) (by decide) rfl (fun _ => rfl) (fun y44 ey44 => ?_)
        obtain rfl : y44 = nI (k + 1) := by rw [ey44]; exact nI_1 _
        refine V_goto (pc := 47) (t := 4) dX9_monday_47 (by decide) ?_
        refine V_lp [0, 1, 2] (ls' := [(0, .ref m), (1, .int y43), (2, .int (nI (k + 1)))]) rfl ?_
        obtain rfl : y43 = (monS σ nt (k + 1)).2 := by rw [ey43, hM1]; exact Int32.add_zero _
        refine ih (k + 1) (by omega) _ ?_
        rw [hM1]
        exact hA.tr hs
      · have hM1 : monS σ nt (k + 1) = (sTake (A 288) k y26, (monS σ nt k).2 + ftook (A 288 (14 + 4 * k + 2)) y26) := by show (if _ then _ else _) = _; rw [← eA, ← e26, if_pos (Int32.not_le.mp h29)]
        refine V_aln (pc := 32) dX9_monday_32 rfl rfl ?_
        refine V_iln (pc := 33) dX9_monday_33 rfl rfl ?_
        refine V_iln (pc := 34) dX9_monday_34 rfl rfl ?_
        refine V_cVi0 (pc := 35) (jc_X9_158 dX9_monday_35 rfl) rfl rfl (Nat.le_of_ble_eq_true rfl) (mF_k hM) ?_
        refine m_takes hM (by omega) ?_
        refine V_goto (pc := 38) (t := 42) dX9_monday_38 (by decide) ?_
        refine V_iadd (pc := 42) dX9_monday_42 ?_
        refine V_isn (pc := 43) (fun y => [(0, .ref m), (1, .int y), (2, .int (nI k)), (3, .int y26)]) dX9_monday_43 rfl (by decide) (fun _ => rfl) (fun y43 ey43 => ?_)
        refine V_inc (pc := 44) (fun y => [(0, .ref m), (1, .int y43), (2, .int y), (3, .int y26)]) (w := 1) dX9_monday_44 (by decide) (by decide) rfl (fun _ => rfl) (fun y44 ey44 => ?_)
        obtain rfl : y44 = nI (k + 1) := by rw [ey44]; exact nI_1 _
        refine V_goto (pc := 47) (t := 4) dX9_monday_47 (by decide) ?_
        refine V_lp [0, 1, 2] (ls' := [(0, .ref m), (1, .int y43), (2, .int (nI (k + 1)))]) rfl ?_
        obtain rfl : y43 = (monS σ nt (k + 1)).2 := by rw [ey43, hM1, sc_self hs]
        refine ih (k + 1) (by omega) _ ?_
        rw [hM1, sc_self hs]
        exact fun f a b => by
          by_cases hf : f = 288
          · subst hf; rw [uA_at, uA_at]
          · rw [uA_ne _ _ hf, uA_ne _ _ hf, hs f a b, hA f a b, uA_ne _ _ hf]
set_option maxRecDepth 100000 in
set_option maxHeartbeats 4000000 in
theorem m_monday {x : pX} {d : Nat} {S : pS} {m : Nat} {as : Nat → Nat} {A : Nat → Nat → Int32} {F : Nat → Int32} {Q : Int32 → pS → Prop} (hM : MF S m as) {n nt np : Nat} (hI : MI (A 288) n nt np) (h : ∀ A2, sc (uA A (monS (A 288) nt n).1) A2 → Q (monS (A 288) nt n).2 (mP S m as A2 F)) : PI x (d + 4) M_X9_monday [.ref m] (mP S m as A F) Q := by
  refine PM_of (by decide +kernel) (Nat.le_of_ble_eq_true rfl) ?_
  show V x (d + 4) M_X9_monday (qi Q) (0, 0) 0 [(0, .ref m)] [] (mP S m as A F)
  refine V_iconst (pc := 0) (v := 0) dX9_monday_0 (by decide) ?_
  refine V_isn (pc := 1) (fun y => [(0, .ref m), (1, .int y)]) dX9_monday_1 rfl (by decide) (fun _ => rfl) (fun y1 ey1 => ?_)
  obtain rfl : y1 = nI 0 := ey1
  refine V_iconst (pc := 2) (v := 0) dX9_monday_2 (by decide) ?_
  refine V_isn (pc := 3) (fun y => [(0, .ref m), (1, .int (nI 0)), (2, .int y)]) dX9_monday_3 rfl (by decide) (fun _ => rfl) (fun y3 ey3 => ?_)
  obtain rfl : y3 = nI 0 := ey3
  exact m_monday_L (A0 := A) hM hI h n 0 (by omega) A (by rw [show (monS (A 288) nt 0).1 = A 288 from rfl, uA_self]; exact sc.rf)
/-- the falls of a day, of the first k weights: the row, how many fell -/
noncomputable def dayF (σ : Nat → Int32) (nt : Nat) : Nat → (Nat → Int32) × Nat
  | 0 => (σ, 0)
  | k + 1 => if rm (dr (nx ((dayF σ nt k).1 4))) 100 < 5 then (sFall (upd (dayF σ nt k).1 4 (nx ((dayF σ nt k).1 4))) nt k, (dayF σ nt k).2 + 1) else (upd (dayF σ nt k).1 4 (nx ((dayF σ nt k).1 4)), (dayF σ nt k).2)
theorem dayF_mk (σ : Nat → Int32) (nt : Nat) : ∀ k, k ≤ 10 → mk σ (dayF σ nt k).1
  | 0, _ => mk.rf
  | k + 1, hk => by
    have ih := dayF_mk σ nt k (by omega)
    unfold dayF
    split
    · exact (ih.up (by omega) _).up (by omega) _
    · exact ih.up (by omega) _
theorem dayF_le (σ : Nat → Int32) (nt : Nat) : ∀ k, (dayF σ nt k).2 ≤ k
  | 0 => Nat.le_refl _
  | k + 1 => by
    have ih := dayF_le σ nt k
    unfold dayF
    split
    · show _ + 1 ≤ _; omega
    · show (dayF σ nt k).2 ≤ _; omega
noncomputable def dayM (σ : Nat → Int32) (n nt : Nat) : Nat → Int32 := if rm ((dayF σ nt n).1 3) 7 = 0 then (monS (dayF σ nt n).1 nt n).1 else (dayF σ nt n).1
noncomputable def fday (σ : Nat → Int32) (n nt : Nat) : Nat → Int32 := upd (dayM σ n nt) 3 (dayM σ n nt 3 + 1)
theorem fday_mk (σ : Nat → Int32) {n nt : Nat} (hn : n ≤ 10) : mk σ (fday σ n nt) := by
  unfold fday dayM
  refine mk.up ?_ (by omega) _
  split
  · exact (dayF_mk σ nt n hn).tr (monS_mk _ nt n hn)
  · exact dayF_mk σ nt n hn
set_option maxRecDepth 100000 in
set_option maxHeartbeats 4000000 in
theorem m_day_T {x : pX} {d : Nat} {S : pS} {m : Nat} {as : Nat → Nat} {A : Nat → Nat → Int32} {F : Nat → Int32} {b : Nat × Nat} {Q : Int32 → pS → Prop} (hM : MF S m as) {c : Int32} {σ : Nat → Int32} (hA : A 288 = σ) (h : Q c (mP S m as (uA A (upd σ 3 (σ 3 + 1))) F)) : V x (d + 7) M_X9_day (qi Q) b 57 [(0, .ref m), (1, .int c)] [] (mP S m as A F) := by
  refine V_aln (pc := 57) dX9_day_57 rfl rfl ?_
  refine M_gr (pc := 58) hM 0 288 dX9_day_58 (FL_X9_7 rfl) rfl rfl (by decide) ?_
  refine V_iconst (pc := 61) (v := 3) dX9_day_61 (by decide) ?_
  refine V_dup2 (pc := 62) dX9_day_62 rfl rfl ?_
  refine M_ia (pc := 63) hM 288 3 dX9_day_63 (by decide) (by decide) (by simp only [fa_lit, nI_add, pk_mul]) (by show (_ : Nat) < 3154; omega) ?_
  refine V_iconst (pc := 64) (v := 1) dX9_day_64 (by decide) ?_
  refine V_iadd (pc := 65) dX9_day_65 ?_
  refine M_iasS (pc := 66) hM 3 dX9_day_66 (by simp only [fa_lit, nI_add, pk_mul]) (by show (_ : Nat) < 3154; omega) ?_
  refine V_iln (pc := 67) dX9_day_67 rfl rfl ?_
  refine V_iret (pc := 68) dX9_day_68 rfl rfl ?_
  rw [hA]; exact h
set_option maxRecDepth 100000 in
set_option maxHeartbeats 4000000 in
theorem m_day_L {x : pX} {d : Nat} {S : pS} {m : Nat} {as : Nat → Nat} {F : Nat → Int32} {b : Nat × Nat} {Q : Int32 → pS → Prop} (hM : MF S m as) {σ : Nat → Int32} {A0 : Nat → Nat → Int32} {n nt np : Nat} (hI : MI σ n nt np) (h : ∀ A2, sc (uA A0 (fday σ n nt)) A2 → Q (nI (dayF σ nt n).2) (mP S m as A2 F)) : ∀ (c k : Nat), k + c = n → ∀ (A : Nat → Nat → Int32), sc (uA A0 (dayF σ nt k).1) A → V x (d + 7) M_X9_day (qi Q) b 4 [(0, .ref m), (1, .int (nI ((dayF σ nt k).2))), (2, .int (nI k))] [] (mP S m as A F) := by
  intro c
  induction c with
  | zero =>
    intro k hk A hA
    have hn10 := hI.1.2
    have eA : A 288 = (dayF σ nt k).1 := by rw [sc_self hA, uA_at]
    have hIA : MI (A 288) n nt np := by rw [eA]; exact hI.same (dayF_mk σ nt k (by omega))
    have e0 := hIA.1.1
    refine V_iln (pc := 4) dX9_day_4 rfl rfl ?_
    refine V_aln (pc := 5) dX9_day_5 rfl rfl ?_
    refine M_gr (pc := 6) hM 0 288 dX9_day_6 (FL_X9_7 rfl) rfl rfl (by decide) ?_
    refine V_iconst (pc := 9) (v := 0) dX9_day_9 (by decide) ?_
    refine M_ia (pc := 10) hM 288 0 dX9_day_10 (by decide) (by decide) (by simp only [fa_lit, nI_add, pk_mul]) (by show (_ : Nat) < 3154; omega) ?_
    refine V_cge (pc := 11) (t := 40) dX9_day_11 (by decide) (fun h11 => ?_) (fun h11 => ?_)
    · obtain rfl : k = n := by omega
      refine V_aln (pc := 40) dX9_day_40 rfl rfl ?_
      refine M_gr (pc := 41) hM 0 288 dX9_day_41 (FL_X9_7 rfl) rfl rfl (by decide) ?_
      refine V_iconst (pc := 44) (v := 3) dX9_day_44 (by decide) ?_
      refine M_ia (pc := 45) hM 288 3 dX9_day_45 (by decide) (by decide) (by simp only [fa_lit, nI_add, pk_mul]) (by show (_ : Nat) < 3154; omega) ?_
      refine V_bipush (pc := 46) (v := 7) dX9_day_46 (by decide) ?_
      refine V_irem (pc := 48) dX9_day_48 (by decide) ?_
      refine V_ne (pc := 49) (t := 57) dX9_day_49 (by decide) (fun h49 => ?_) (fun h49 => ?_)
      · have hM1 : dayM σ k nt = A 288 := by unfold dayM; rw [← eA, if_neg (show ¬ rm (A 288 3) 7 = 0 from h49)]
        refine V_lp [0, 1] (ls' := [(0, .ref m), (1, .int (nI ((dayF σ nt k).2)))]) rfl ?_
        first
          | (refine m_day_T (σ := dayM σ k nt) hM (by rw [hM1, sc_self hs, uA_at]) ?_
             refine h _ (fun f a b => ?_)
             by_cases hf : f = 288
             · subst hf; rw [uA_at, uA_at]; rfl
             · rw [uA_ne _ _ hf, uA_ne _ _ hf, hs f a b, uA_ne _ _ hf, hA f a b, uA_ne _ _ hf])
          | (refine m_day_T (σ := dayM σ k nt) hM hM1.symm ?_
             refine h _ (fun f a b => ?_)
             by_cases hf : f = 288
             · subst hf; rw [uA_at, uA_at]; rfl
             · rw [uA_ne _ _ hf, uA_ne _ _ hf, hA f a b, uA_ne _ _ hf])
      · have hM1 : dayM σ k nt = (monS (A 288) nt k).1 := by unfold dayM; rw [← eA, if_pos (show rm (A 288 3) 7 = 0 from h49)]
        refine V_aln (pc := 52) dX9_day_52 rfl rfl ?_
        refine V_cVi0 (pc := 53) (jc_X9_164 dX9_day_53 rfl) rfl rfl (Nat.le_of_ble_eq_true rfl) (mF_k hM) ?_
        refine m_monday hM hIA (fun A2 hs => ?_)
        refine V_isn (pc := 56) (fun y => [(0, .ref m), (1, .int (nI ((dayF σ nt k).2))), (2, .int y)]) dX9_day_56 rfl (by decide) (fun _ => rfl) (fun y56 ey56 => ?_)
        refine V_lp [0, 1] (ls' := [(0, .ref m), (1, .int (nI ((dayF σ nt k).2)))]) rfl ?_
        first
          | (refine m_day_T (σ := dayM σ k nt) hM (by rw [hM1, sc_self hs, uA_at]) ?_
             refine h _ (fun f a b => ?_)
             by_cases hf : f = 288
             · subst hf; rw [uA_at, uA_at]; rfl
             · rw [uA_ne _ _ hf, uA_ne _ _ hf, hs f a b, uA_ne _ _ hf, hA f a b, uA_ne _ _ hf])
          | (refine m_day_T (σ := dayM σ k nt) hM hM1.symm ?_
             refine h _ (fun f a b => ?_)
             by_cases hf : f = 288
             · subst hf; rw [uA_at, uA_at]; rfl
             · rw [uA_ne _ _ hf, uA_ne _ _ hf, hA f a b, uA_ne _ _ hf])
    · exact absurd (by rw [e0]; exact nI_le (by omega) (by omega)) h11
  | succ c ih =>
    intro k hk A hA
    have hn10 := hI.1.2
    have eA : A 288 = (dayF σ nt k).1 := by rw [sc_self hA, uA_at]
    have hIA : MI (A 288) n nt np := by rw [eA]; exact hI.same (dayF_mk σ nt k (by omega))
    have e0 := hIA.1.1
    refine V_iln (pc := 4) dX9_day_4 rfl rfl ?_
    refine V_aln (pc := 5) dX9_day_5 rfl rfl ?_
    refine M_gr (pc := 6) hM 0 288 dX9_day_6 (FL_X9_7 rfl) rfl rfl (by decide) ?_
    refine V_iconst (pc := 9) (v := 0) dX9_day_9 (by decide) ?_
    refine M_ia (pc := 10) hM 288 0 dX9_day_10 (by decide) (by decide) (by simp only [fa_lit, nI_add, pk_mul]) (by show (_ : Nat) < 3154; omega) ?_
    refine V_cge (pc := 11) (t := 40) dX9_day_11 (by decide) (fun h11 => ?_) (fun h11 => ?_)
    · exact absurd h11 (by rw [e0]; exact nI_ge (by omega) (by omega))
    · refine V_aln (pc := 14) dX9_day_14 rfl rfl ?_
      refine V_cVi0 (pc := 15) (jc_X9_132 dX9_day_15 rfl) rfl rfl (Nat.le_of_ble_eq_true rfl) (mF_k hM) ?_
      refine m_drawn hM (fun z1 hz1 => ?_)
      refine V_bipush (pc := 18) (v := 100) dX9_day_18 (by decide) ?_
      refine V_irem (pc := 20) dX9_day_20 (by decide) ?_
      refine V_iconst (pc := 21) (v := 5) dX9_day_21 (by decide) ?_
      refine V_cge (pc := 22) (t := 34) dX9_day_22 (by decide) (fun h22 => ?_) (fun h22 => ?_)
      · have hD1 : dayF σ nt (k + 1) = (upd (A 288) 4 z1, (dayF σ nt k).2) := by show (if _ then _ else _) = _; rw [← eA, show nx (A 288 4) = z1 from hz1.symm, if_neg (show ¬ rm (dr z1) 100 < 5 from Int32.not_lt.mpr h22)]
        refine V_inc (pc := 34) (fun y => [(0, .ref m), (1, .int (nI ((dayF σ nt k).2))), (2, .int y)]) (w := 1) dX9_day_34 (by decide) (by decide) rfl (fun _ => rfl) (fun y34 ey34 => ?_)
        obtain rfl : y34 = nI (k + 1) := by rw [ey34]; exact nI_1 _
        refine V_goto (pc := 37) (t := 4) dX9_day_37 (by decide) ?_
        refine V_lp [0, 1, 2] (ls' := [(0, .ref m), (1, .int (nI ((dayF σ nt k).2))), (2, .int (nI (k + 1)))]) rfl ?_
        have e2 : (dayF σ nt k).2 = (dayF σ nt (k + 1)).2 := by rw [hD1]
        rw [e2]
        refine ih (k + 1) (by omega) _ ?_
        rw [hD1]
        exact fun f a b => by
          by_cases hf : f = 288
          · subst hf; rw [uA_at, uA_at]
          · rw [uA_ne _ _ hf, uA_ne _ _ hf, hA f a b, uA_ne _ _ hf]
      · have hD1 : dayF σ nt (k + 1) = (sFall (upd (A 288) 4 z1) nt k, (dayF σ nt k).2 + 1) := by show (if _ then _ else _) = _; rw [← eA, show nx (A 288 4) = z1 from hz1.symm, if_pos (show rm (dr z1) 100 < 5 from Int32.not_le.mp h22)]
        refine V_aln (pc := 25) dX9_day_25 rfl rfl ?_
        refine V_iln (pc := 26) dX9_day_26 rfl rfl ?_
        refine V_cVi0 (pc := 27) (jc_X9_154 dX9_day_27 rfl) rfl rfl (Nat.le_of_ble_eq_true rfl) (mF_k hM) ?_
        refine m_falls hM (n := n) (nt := nt) (np := np) (w := k) (by rw [uA_at]; exact hIA.same (mk.rf.up (by omega) _)) (by omega) (fun A2 hs => ?_)
        refine V_isn (pc := 30) (fun y => [(0, .ref m), (1, .int (nI ((dayF σ nt k).2))), (2, .int (nI k)), (3, .int y)]) dX9_day_30 rfl (by decide) (fun _ => rfl) (fun y30 ey30 => ?_)
        refine V_inc (pc := 31) (fun y => [(0, .ref m), (1, .int y), (2, .int (nI k)), (3, .int y30)]) (w := 1) dX9_day_31 (by decide) (by decide) rfl (fun _ => rfl) (fun y31 ey31 => ?_)
        obtain rfl : y31 = nI (((dayF σ nt k).2) + 1) := by rw [ey31]; exact nI_1 _
        refine V_inc (pc := 34) (fun y => [(0, .ref m), (1, .int (nI (((dayF σ nt k).2) + 1))), (2, .int y), (3, .int y30)]) (w := 1) dX9_day_34 (by decide) (by decide) rfl (fun _ => rfl) (fun y34 ey34 => ?_)
        obtain rfl : y34 = nI (k + 1) := by rw [ey34]; exact nI_1 _
        refine V_goto (pc := 37) (t := 4) dX9_day_37 (by decide) ?_
        refine V_lp [0, 1, 2] (ls' := [(0, .ref m), (1, .int (nI (((dayF σ nt k).2) + 1))), (2, .int (nI (k + 1)))]) rfl ?_
        have e2 : (dayF σ nt k).2 + 1 = (dayF σ nt (k + 1)).2 := by rw [hD1]
        rw [e2]
        refine ih (k + 1) (by omega) _ ?_
        rw [hD1]
        rw [uA_at, uA_uA] at hs
        exact fun f a b => by
          by_cases hf : f = 288
          · subst hf; rw [uA_at, hs 288 a b, uA_at]
          · rw [uA_ne _ _ hf, hs f a b, uA_ne _ _ hf, hA f a b, uA_ne _ _ hf]
set_option maxRecDepth 100000 in
set_option maxHeartbeats 4000000 in
theorem m_day {x : pX} {d : Nat} {S : pS} {m : Nat} {as : Nat → Nat} {A : Nat → Nat → Int32} {F : Nat → Int32} {Q : Int32 → pS → Prop} (hM : MF S m as) {n nt np : Nat} (hI : MI (A 288) n nt np) (h : ∀ A2, sc (uA A (fday (A 288) n nt)) A2 → Q (nI (dayF (A 288) nt n).2) (mP S m as A2 F)) : PI x (d + 7) M_X9_day [.ref m] (mP S m as A F) Q := by
  refine PM_of (by decide +kernel) (Nat.le_of_ble_eq_true rfl) ?_
  show V x (d + 7) M_X9_day (qi Q) (0, 0) 0 [(0, .ref m)] [] (mP S m as A F)
  refine V_iconst (pc := 0) (v := 0) dX9_day_0 (by decide) ?_
  refine V_isn (pc := 1) (fun y => [(0, .ref m), (1, .int y)]) dX9_day_1 rfl (by decide) (fun _ => rfl) (fun y1 ey1 => ?_)
  obtain rfl : y1 = nI 0 := ey1
  refine V_iconst (pc := 2) (v := 0) dX9_day_2 (by decide) ?_
  refine V_isn (pc := 3) (fun y => [(0, .ref m), (1, .int (nI 0)), (2, .int y)]) dX9_day_3 rfl (by decide) (fun _ => rfl) (fun y3 ey3 => ?_)
  obtain rfl : y3 = nI 0 := ey3
  exact m_day_L (A0 := A) hM hI h n 0 (by omega) A (by rw [show (dayF (A 288) nt 0).1 = A 288 from rfl, uA_self]; exact sc.rf)
/-- days that pass, up to the last one -/
noncomputable def fds (σ : Nat → Int32) (n nt : Nat) : Nat → (Nat → Int32) × Nat
  | 0 => (σ, 0)
  | k + 1 => if (fds σ n nt k).1 3 < 9999 then (fday (fds σ n nt k).1 n nt, (fds σ n nt k).2 + (dayF (fds σ n nt k).1 nt n).2) else fds σ n nt k
theorem fds_mk (σ : Nat → Int32) {n nt : Nat} (hn : n ≤ 10) : ∀ k, mk σ (fds σ n nt k).1
  | 0 => mk.rf
  | k + 1 => by
    have ih := fds_mk σ (nt := nt) hn k
    unfold fds
    split
    · exact ih.tr (fday_mk _ hn)
    · exact ih
theorem fds_end (σ : Nat → Int32) (n nt k : Nat) (h : ¬ (fds σ n nt k).1 3 < 9999) : ∀ c, fds σ n nt (k + c) = fds σ n nt k
  | 0 => rfl
  | c + 1 => by
    have ih := fds_end σ n nt k h c
    show (if (fds σ n nt (k + c)).1 3 < 9999 then _ else _) = _
    rw [ih, if_neg h]
    exact ih
theorem fds_le (σ : Nat → Int32) {n nt : Nat} (hn : n ≤ 10) : ∀ k, (fds σ n nt k).2 ≤ 10 * k
  | 0 => Nat.le_refl _
  | k + 1 => by
    have ih := fds_le σ (nt := nt) hn k
    have h2 := dayF_le (fds σ n nt k).1 nt n
    unfold fds
    split
    · show _ + _ ≤ _; omega
    · omega
noncomputable def o_days (σ : Nat → Int32) (n nt : Nat) (v : Int32) : Int32 × (Nat → Int32) := if 1 ≤ v.toInt ∧ v.toInt ≤ 60 then (nI (fds σ n nt v.toNatClampNeg).2, (fds σ n nt v.toNatClampNeg).1) else (-1000000001, σ)
set_option maxRecDepth 100000 in
set_option maxHeartbeats 4000000 in
theorem m_days_L {x : pX} {d : Nat} {S : pS} {m : Nat} {as : Nat → Nat} {F : Nat → Int32} {b : Nat × Nat} {Q : Int32 → pS → Prop} (hM : MF S m as) {σ : Nat → Int32} {A0 : Nat → Nat → Int32} {n nt np N : Nat} (hN : N ≤ 60) (hI : MI σ n nt np) (h : ∀ A2, sc (uA A0 (fds σ n nt N).1) A2 → Q (nI (fds σ n nt N).2) (mP S m as A2 F)) : ∀ (c k : Nat), k + c = N → ∀ (A : Nat → Nat → Int32), sc (uA A0 (fds σ n nt k).1) A → V x (d + 8) M_X9_days (qi Q) b 19 [(0, .ref m), (1, .int (nI N)), (2, .int (nI ((fds σ n nt k).2))), (3, .int (nI k))] [] (mP S m as A F) := by
  intro c
  induction c with
  | zero =>
    intro k hk A hA
    have hn10 := hI.1.2
    have eA : A 288 = (fds σ n nt k).1 := by rw [sc_self hA, uA_at]
    have hIA : MI (A 288) n nt np := by rw [eA]; exact hI.same (fds_mk σ hn10 k)
    refine V_iln (pc := 19) dX9_days_19 rfl rfl ?_
    refine V_iln (pc := 20) dX9_days_20 rfl rfl ?_
    refine V_cge (pc := 21) (t := 49) dX9_days_21 (by decide) (fun h21 => ?_) (fun h21 => ?_)
    · refine V_iln (pc := 49) dX9_days_49 rfl rfl ?_
      refine V_iret (pc := 50) dX9_days_50 rfl rfl ?_
      obtain rfl : k = N := by omega
      exact h A hA
    · exact absurd (nI_le (by omega) (by omega)) h21
  | succ c ih =>
    intro k hk A hA
    have hn10 := hI.1.2
    have eA : A 288 = (fds σ n nt k).1 := by rw [sc_self hA, uA_at]
    have hIA : MI (A 288) n nt np := by rw [eA]; exact hI.same (fds_mk σ hn10 k)
    refine V_iln (pc := 19) dX9_days_19 rfl rfl ?_
    refine V_iln (pc := 20) dX9_days_20 rfl rfl ?_
    refine V_cge (pc := 21) (t := 49) dX9_days_21 (by decide) (fun h21 => ?_) (fun h21 => ?_)
    · exact absurd h21 (nI_ge (by omega) (by omega))
    · refine V_aln (pc := 24) dX9_days_24 rfl rfl ?_
      refine M_gr (pc := 25) hM 0 288 dX9_days_25 (FL_X9_7 rfl) rfl rfl (by decide) ?_
      refine V_iconst (pc := 28) (v := 3) dX9_days_28 (by decide) ?_
      refine M_ia (pc := 29) hM 288 3 dX9_days_29 (by decide) (by decide) (by simp only [fa_lit, nI_add, pk_mul]) (by show (_ : Nat) < 3154; omega) ?_
      refine V_sipush (pc := 30) (v := 9999) dX9_days_30 (by decide) ?_
      refine V_cge (pc := 33) (t := 49) dX9_days_33 (by decide) (fun h33 => ?_) (fun h33 => ?_)
      · have hE := fds_end σ n nt k (by rw [← eA]; exact Int32.not_lt.mpr h33) (c + 1)
        rw [hk] at hE
        refine V_iln (pc := 49) dX9_days_49 rfl rfl ?_
        refine V_iret (pc := 50) dX9_days_50 rfl rfl ?_
        rw [← hE]; exact h A (by rw [hE]; exact hA)
      · have hD1 : fds σ n nt (k + 1) = (fday (A 288) n nt, (fds σ n nt k).2 + (dayF (A 288) nt n).2) := by show (if _ then _ else _) = _; rw [← eA, if_pos (Int32.not_le.mp h33)]
        refine V_iln (pc := 36) dX9_days_36 rfl rfl ?_
        refine V_aln (pc := 37) dX9_days_37 rfl rfl ?_
        refine V_cVi0 (pc := 38) (jc_X9_169 dX9_days_38 rfl) rfl rfl (Nat.le_of_ble_eq_true rfl) (mF_k hM) ?_
        refine m_day hM hIA (fun A2 hs => ?_)
        refine V_iadd (pc := 41) dX9_days_41 ?_
        refine V_isn (pc := 42) (fun y => [(0, .ref m), (1, .int (nI N)), (2, .int y), (3, .int (nI k))]) dX9_days_42 rfl (by decide) (fun _ => rfl) (fun y42 ey42 => ?_)
        obtain rfl : y42 = nI (fds σ n nt (k + 1)).2 := by rw [ey42]; rw [hD1]; exact nI_add _ _
        refine V_inc (pc := 43) (fun y => [(0, .ref m), (1, .int (nI N)), (2, .int (nI (fds σ n nt (k + 1)).2)), (3, .int y)]) (w := 1) dX9_days_43 (by decide) (by decide) rfl (fun _ => rfl) (fun y43 ey43 => ?_)
        obtain rfl : y43 = nI (k + 1) := by rw [ey43]; exact nI_1 _
        refine V_goto (pc := 46) (t := 19) dX9_days_46 (by decide) ?_
        refine ih (k + 1) (by omega) _ ?_
        rw [hD1]
        exact fun f a b => by
          by_cases hf : f = 288
          · subst hf; rw [uA_at, hs 288 a b, uA_at]
          · rw [uA_ne _ _ hf, hs f a b, uA_ne _ _ hf, hA f a b, uA_ne _ _ hf]
set_option maxRecDepth 100000 in
set_option maxHeartbeats 4000000 in
theorem M_days {x : pX} {d : Nat} {S : pS} {m : Nat} {as : Nat → Nat} {A : Nat → Nat → Int32} {F : Nat → Int32} {Q : Int32 → pS → Prop} (hM : MF S m as) {n nt np : Nat} {v : Int32} (hI : MI (A 288) n nt np) (h : ∀ A2, sc (uA A (o_days (A 288) n nt v).2) A2 → Q (o_days (A 288) n nt v).1 (mP S m as A2 F)) : PI x (d + 8) M_X9_days [.ref m, .int v] (mP S m as A F) Q := by
  have hn10 := hI.1.2
  refine PM_of (by decide +kernel) (Nat.le_of_ble_eq_true rfl) ?_
  show V x (d + 8) M_X9_days (qi Q) (0, 0) 0 [(0, .ref m), (1, .int v)] [] (mP S m as A F)
  refine V_iln (pc := 0) dX9_days_0 rfl rfl ?_
  refine V_i2l (pc := 1) dX9_days_1 ?_
  refine V_lconst (pc := 2) (v := 1) dX9_days_2 (by decide) ?_
  refine V_ldc2 (pc := 3) dX9_days_3 (KC_X9_167 rfl) ?_
  refine V_cSi0 (pc := 6) (jc_X9_62 dX9_days_6 rfl) rfl rfl (Nat.le_of_ble_eq_true rfl) ?_
  refine m_isIn (l := 1) 1 60 (by decide) (by decide) (fun a1 a2 => ?_) (fun a0 => ?_)
  · refine V_ne (pc := 9) (t := 15) dX9_days_9 (by decide) (fun _ => ?_) (fun h => absurd h (by decide))
    refine V_iconst (pc := 15) (v := 0) dX9_days_15 (by decide) ?_
    refine V_isn (pc := 16) (fun y => [(0, .ref m), (1, .int v), (2, .int y)]) dX9_days_16 rfl (by decide) (fun _ => rfl) (fun y16 ey16 => ?_)
    obtain rfl : y16 = nI 0 := ey16
    refine V_iconst (pc := 17) (v := 0) dX9_days_17 (by decide) ?_
    refine V_isn (pc := 18) (fun y => [(0, .ref m), (1, .int v), (2, .int (nI 0)), (3, .int y)]) dX9_days_18 rfl (by decide) (fun _ => rfl) (fun y18 ey18 => ?_)
    obtain rfl : y18 = nI 0 := ey18
    obtain ⟨N, hN, e, e2, e3⟩ := idx_of (w := v) (n := 61) (by decide) (by omega) (by omega)
    subst e
    unfold o_days at h; rw [if_pos (by omega), e3] at h
    exact m_days_L (A0 := A) (σ := A 288) hM (by omega) hI h N 0 (by omega) A (by rw [show (fds (A 288) n nt 0).1 = A 288 from rfl, uA_self]; exact sc.rf)
  · refine V_ne (pc := 9) (t := 15) dX9_days_9 (by decide) (fun h => absurd h (by decide)) (fun _ => ?_)
    refine V_ldc (pc := 12) dX9_days_12 (KC_X9_82 rfl) ?_
    refine V_iret (pc := 14) dX9_days_14 rfl rfl ?_
    unfold o_days at h; rw [if_neg (by omega), uA_self] at h
    exact h A sc.rf
