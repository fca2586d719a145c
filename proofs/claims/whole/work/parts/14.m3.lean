/-! ===== the model: weights, balances, weighings, days ===== -/
theorem uA_self (A : Nat → Nat → Int32) : uA A (A 288) = A := by
  funext f
  by_cases h : f = 288
  · subst h; exact va_up_self _ _ _
  · exact va_up_ne _ _ h
theorem sc_self {A A2 : Nat → Nat → Int32} (h : sc A A2) : A2 288 = A 288 := h 288 (by decide) (by decide)
theorem sc.u {A A2 : Nat → Nat → Int32} (h : sc A A2) (σ : Nat → Int32) : sc (uA A σ) (uA A2 σ) := fun f a b => by
  by_cases hf : f = 288
  · subst hf; rw [uA_at, uA_at]
  · rw [uA_ne _ _ hf, uA_ne _ _ hf]; exact h f a b
abbrev fisOf (own kind : Int32) : Prop := own = kind ∨ kind = 0 ∨ (kind = 1 ∧ own = 3) ∨ (kind = 2 ∧ own = 4)
set_option maxHeartbeats 4000000 in
theorem m_isOf {x : pX} {d : Nat} {S : pS} {Q : Int32 → pS → Prop} {u v : Int32} (h1 : fisOf u v → Q 1 S) (h0 : ¬ fisOf u v → Q 0 S) : PI x (d + 1) M_X9_isOf [.int u, .int v] S Q := by
  refine PM_of (by decide +kernel) (Nat.le_of_ble_eq_true rfl) ?_
  show V x (d + 1) M_X9_isOf (qi Q) (0, 0) 0 [(0, .int u), (1, .int v)] [] S
  refine V_iln (pc := 0) dX9_isOf_0 rfl rfl ?_
  refine V_iln (pc := 1) dX9_isOf_1 rfl rfl ?_
  refine V_ceq (pc := 2) (t := 29) dX9_isOf_2 (by decide) (fun h2 => ?_) (fun h2 => ?_)
  · refine V_iconst (pc := 29) (v := 1) dX9_isOf_29 (by decide) ?_
    refine V_goto (pc := 30) (t := 34) dX9_isOf_30 (by decide) ?_
    refine V_iret (pc := 34) dX9_isOf_34 rfl rfl ?_
    first | exact h1 (Or.inl h2) | exact h1 (Or.inr (Or.inl h6)) | exact h1 (Or.inr (Or.inr (Or.inl ⟨h11, h16⟩))) | exact h1 (Or.inr (Or.inr (Or.inr ⟨h21, h26⟩))) | (refine h0 ?_; rintro (q | q | ⟨q, q2⟩ | ⟨q, q2⟩) <;> first | exact h2 q | exact h6 q | exact h11 q | exact h16 q2 | exact h21 q | exact h26 q2)
  · refine V_iln (pc := 5) dX9_isOf_5 rfl rfl ?_
    refine V_eq (pc := 6) (t := 29) dX9_isOf_6 (by decide) (fun h6 => ?_) (fun h6 => ?_)
    · refine V_iconst (pc := 29) (v := 1) dX9_isOf_29 (by decide) ?_
      refine V_goto (pc := 30) (t := 34) dX9_isOf_30 (by decide) ?_
      refine V_iret (pc := 34) dX9_isOf_34 rfl rfl ?_
      first | exact h1 (Or.inl h2) | exact h1 (Or.inr (Or.inl h6)) | exact h1 (Or.inr (Or.inr (Or.inl ⟨h11, h16⟩))) | exact h1 (Or.inr (Or.inr (Or.inr ⟨h21, h26⟩))) | (refine h0 ?_; rintro (q | q | ⟨q, q2⟩ | ⟨q, q2⟩) <;> first | exact h2 q | exact h6 q | exact h11 q | exact h16 q2 | exact h21 q | exact h26 q2)
    · refine V_iln (pc := 9) dX9_isOf_9 rfl rfl ?_
      refine V_iconst (pc := 10) (v := 1) dX9_isOf_10 (by decide) ?_
      refine V_cne (pc := 11) (t := 19) dX9_isOf_11 (by decide) (fun h11 => ?_) (fun h11 => ?_)
      · refine V_iln (pc := 19) dX9_isOf_19 rfl rfl ?_
        refine V_iconst (pc := 20) (v := 2) dX9_isOf_20 (by decide) ?_
        refine V_cne (pc := 21) (t := 33) dX9_isOf_21 (by decide) (fun h21 => ?_) (fun h21 => ?_)
        · refine V_iconst (pc := 33) (v := 0) dX9_isOf_33 (by decide) ?_
          refine V_iret (pc := 34) dX9_isOf_34 rfl rfl ?_
          first | exact h1 (Or.inl h2) | exact h1 (Or.inr (Or.inl h6)) | exact h1 (Or.inr (Or.inr (Or.inl ⟨h11, h16⟩))) | exact h1 (Or.inr (Or.inr (Or.inr ⟨h21, h26⟩))) | (refine h0 ?_; rintro (q | q | ⟨q, q2⟩ | ⟨q, q2⟩) <;> first | exact h2 q | exact h6 q | exact h11 q | exact h16 q2 | exact h21 q | exact h26 q2)
        · refine V_iln (pc := 24) dX9_isOf_24 rfl rfl ?_
          refine V_iconst (pc := 25) (v := 4) dX9_isOf_25 (by decide) ?_
          refine V_cne (pc := 26) (t := 33) dX9_isOf_26 (by decide) (fun h26 => ?_) (fun h26 => ?_)
          · refine V_iconst (pc := 33) (v := 0) dX9_isOf_33 (by decide) ?_
            refine V_iret (pc := 34) dX9_isOf_34 rfl rfl ?_
            first | exact h1 (Or.inl h2) | exact h1 (Or.inr (Or.inl h6)) | exact h1 (Or.inr (Or.inr (Or.inl ⟨h11, h16⟩))) | exact h1 (Or.inr (Or.inr (Or.inr ⟨h21, h26⟩))) | (refine h0 ?_; rintro (q | q | ⟨q, q2⟩ | ⟨q, q2⟩) <;> first | exact h2 q | exact h6 q | exact h11 q | exact h16 q2 | exact h21 q | exact h26 q2)
          · refine V_iconst (pc := 29) (v := 1) dX9_isOf_29 (by decide) ?_
            refine V_goto (pc := 30) (t := 34) dX9_isOf_30 (by decide) ?_
            refine V_iret (pc := 34) dX9_isOf_34 rfl rfl ?_
            first | exact h1 (Or.inl h2) | exact h1 (Or.inr (Or.inl h6)) | exact h1 (Or.inr (Or.inr (Or.inl ⟨h11, h16⟩))) | exact h1 (Or.inr (Or.inr (Or.inr ⟨h21, h26⟩))) | (refine h0 ?_; rintro (q | q | ⟨q, q2⟩ | ⟨q, q2⟩) <;> first | exact h2 q | exact h6 q | exact h11 q | exact h16 q2 | exact h21 q | exact h26 q2)
      · refine V_iln (pc := 14) dX9_isOf_14 rfl rfl ?_
        refine V_iconst (pc := 15) (v := 3) dX9_isOf_15 (by decide) ?_
        refine V_ceq (pc := 16) (t := 29) dX9_isOf_16 (by decide) (fun h16 => ?_) (fun h16 => ?_)
        · refine V_iconst (pc := 29) (v := 1) dX9_isOf_29 (by decide) ?_
          refine V_goto (pc := 30) (t := 34) dX9_isOf_30 (by decide) ?_
          refine V_iret (pc := 34) dX9_isOf_34 rfl rfl ?_
          first | exact h1 (Or.inl h2) | exact h1 (Or.inr (Or.inl h6)) | exact h1 (Or.inr (Or.inr (Or.inl ⟨h11, h16⟩))) | exact h1 (Or.inr (Or.inr (Or.inr ⟨h21, h26⟩))) | (refine h0 ?_; rintro (q | q | ⟨q, q2⟩ | ⟨q, q2⟩) <;> first | exact h2 q | exact h6 q | exact h11 q | exact h16 q2 | exact h21 q | exact h26 q2)
        · refine V_iln (pc := 19) dX9_isOf_19 rfl rfl ?_
          refine V_iconst (pc := 20) (v := 2) dX9_isOf_20 (by decide) ?_
          refine V_cne (pc := 21) (t := 33) dX9_isOf_21 (by decide) (fun h21 => ?_) (fun h21 => ?_)
          · refine V_iconst (pc := 33) (v := 0) dX9_isOf_33 (by decide) ?_
            refine V_iret (pc := 34) dX9_isOf_34 rfl rfl ?_
            first | exact h1 (Or.inl h2) | exact h1 (Or.inr (Or.inl h6)) | exact h1 (Or.inr (Or.inr (Or.inl ⟨h11, h16⟩))) | exact h1 (Or.inr (Or.inr (Or.inr ⟨h21, h26⟩))) | (refine h0 ?_; rintro (q | q | ⟨q, q2⟩ | ⟨q, q2⟩) <;> first | exact h2 q | exact h6 q | exact h11 q | exact h16 q2 | exact h21 q | exact h26 q2)
          · refine V_iln (pc := 24) dX9_isOf_24 rfl rfl ?_
            refine V_iconst (pc := 25) (v := 4) dX9_isOf_25 (by decide) ?_
            refine V_cne (pc := 26) (t := 33) dX9_isOf_26 (by decide) (fun h26 => ?_) (fun h26 => ?_)
            · refine V_iconst (pc := 33) (v := 0) dX9_isOf_33 (by decide) ?_
              refine V_iret (pc := 34) dX9_isOf_34 rfl rfl ?_
              first | exact h1 (Or.inl h2) | exact h1 (Or.inr (Or.inl h6)) | exact h1 (Or.inr (Or.inr (Or.inl ⟨h11, h16⟩))) | exact h1 (Or.inr (Or.inr (Or.inr ⟨h21, h26⟩))) | (refine h0 ?_; rintro (q | q | ⟨q, q2⟩ | ⟨q, q2⟩) <;> first | exact h2 q | exact h6 q | exact h11 q | exact h16 q2 | exact h21 q | exact h26 q2)
            · refine V_iconst (pc := 29) (v := 1) dX9_isOf_29 (by decide) ?_
              refine V_goto (pc := 30) (t := 34) dX9_isOf_30 (by decide) ?_
              refine V_iret (pc := 34) dX9_isOf_34 rfl rfl ?_
              first | exact h1 (Or.inl h2) | exact h1 (Or.inr (Or.inl h6)) | exact h1 (Or.inr (Or.inr (Or.inl ⟨h11, h16⟩))) | exact h1 (Or.inr (Or.inr (Or.inr ⟨h21, h26⟩))) | (refine h0 ?_; rintro (q | q | ⟨q, q2⟩ | ⟨q, q2⟩) <;> first | exact h2 q | exact h6 q | exact h11 q | exact h16 q2 | exact h21 q | exact h26 q2)
def o_weight (σ : Nat → Int32) (n : Nat) (kind stamp : Int32) : Int32 × (Nat → Int32) := if 0 ≤ kind.toInt ∧ kind.toInt ≤ 5 ∧ 1 ≤ stamp.toInt ∧ stamp.toInt ≤ 999 then (if n = 10 then (-1000000003, σ) else (nI n, sCome σ n kind stamp)) else (-1000000001, σ)
theorem M_weight {x : pX} {d : Nat} {S : pS} {m : Nat} {as : Nat → Nat} {A : Nat → Nat → Int32} {F : Nat → Int32} {Q : Int32 → pS → Prop} (hM : MF S m as) {n nt np : Nat} {kind stamp : Int32} (hI : MI (A 288) n nt np) (h : ∀ A2, sc (uA A (o_weight (A 288) n kind stamp).2) A2 → Q (o_weight (A 288) n kind stamp).1 (mP S m as A2 F)) : PI x (d + 3) M_X9_weight [.ref m, .int kind, .int stamp] (mP S m as A F) Q := by
  refine m_weight hM hI.1.1 hI.1.2 (fun q => ?_) (fun q q2 => ?_) (fun q q2 => ?_)
  · unfold o_weight at h; rw [if_neg q, uA_self] at h; exact h A sc.rf
  · unfold o_weight at h; rw [if_pos q, if_pos q2, uA_self] at h; exact h A sc.rf
  · unfold o_weight at h; rw [if_pos q, if_neg (by omega)] at h; exact h _ sc.rf
noncomputable def o_told (σ : Nat → Int32) (n nt : Nat) (w what : Int32) : Int32 := if 0 ≤ w.toInt ∧ w.toInt < n then (if 0 ≤ what.toInt ∧ what.toInt ≤ 3 then σ (14 + 4 * w.toNatClampNeg + what.toNatClampNeg) else if what = 4 then floss σ nt w.toNatClampNeg (σ (14 + 4 * w.toNatClampNeg + 2)) (σ (14 + 4 * w.toNatClampNeg + 3)) else if what = 5 then ffall σ nt w.toNatClampNeg else if what = 6 then fworth (σ (14 + 4 * w.toNatClampNeg + 0)) (σ (14 + 4 * w.toNatClampNeg + 2)) (σ (14 + 4 * w.toNatClampNeg + 3)) else -1000000001) else -1000000001
set_option maxHeartbeats 4000000 in
theorem M_told {x : pX} {d : Nat} {S : pS} {m : Nat} {as : Nat → Nat} {A : Nat → Nat → Int32} {F : Nat → Int32} {Q : Int32 → pS → Prop} (hM : MF S m as) {n nt np : Nat} {w what : Int32} (hI : MI (A 288) n nt np) (h : ∀ A2, sc A A2 → Q (o_told (A 288) n nt w what) (mP S m as A2 F)) : PI x (d + 6) M_X9_told [.ref m, .int w, .int what] (mP S m as A F) Q := by
  have hn10 := hI.1.2
  refine PM_of (by decide +kernel) (Nat.le_of_ble_eq_true rfl) ?_
  show V x (d + 6) M_X9_told (qi Q) (0, 0) 0 [(0, .ref m), (1, .int w), (2, .int what)] [] (mP S m as A F)
  refine V_aln (pc := 0) dX9_told_0 rfl rfl ?_
  refine V_iln (pc := 1) dX9_told_1 rfl rfl ?_
  refine V_cVi0 (pc := 2) (jc_X9_105 dX9_told_2 rfl) rfl rfl (Nat.le_of_ble_eq_true rfl) (mF_k hM) ?_
  refine m_isWeight hM hI.1.1 (by omega) (fun i hi ei ti ci => ?_) (fun ni => ?_)
  · subst ei
    refine V_ne (pc := 5) (t := 11) dX9_told_5 (by decide) (fun _ => ?_) (fun h => absurd h (by decide))
    refine V_iln (pc := 11) dX9_told_11 rfl rfl ?_
    refine V_tab (pc := 12) (t := 81) [56, 56, 56, 56, 63, 69, 75] dX9_told_12 (by decide) (by decide) (by decide) (fun i12 q12 hq12 he12 => ?_) (fun ho12 => ?_)
    · match i12, hq12, he12 with
      | 0, hq, he => 
        cases hq
        have e12 : what = (0 : Int32) := Int32.toInt_inj.mp (by rw [he]; decide)
        subst e12
        unfold o_told at h
        rw [if_pos (by omega), if_pos (by decide), ci, show (0 : Int32).toNatClampNeg = 0 from by decide] at h
        refine V_aln (pc := 56) dX9_told_56 rfl rfl ?_
        refine V_iln (pc := 57) dX9_told_57 rfl rfl ?_
        refine V_iln (pc := 58) dX9_told_58 rfl rfl ?_
        refine V_cVi0 (pc := 59) (jc_X9_67 dX9_told_59 rfl) rfl rfl (Nat.le_of_ble_eq_true rfl) (mF_k hM) ?_
        refine m_of hM (i := i) (j := 0) (by omega) ?_
        refine V_iret (pc := 62) dX9_told_62 rfl rfl ?_
        exact h A sc.rf
      | 1, hq, he => 
        cases hq
        have e12 : what = (1 : Int32) := Int32.toInt_inj.mp (by rw [he]; decide)
        subst e12
        unfold o_told at h
        rw [if_pos (by omega), if_pos (by decide), ci, show (1 : Int32).toNatClampNeg = 1 from by decide] at h
        refine V_aln (pc := 56) dX9_told_56 rfl rfl ?_
        refine V_iln (pc := 57) dX9_told_57 rfl rfl ?_
        refine V_iln (pc := 58) dX9_told_58 rfl rfl ?_
        refine V_cVi0 (pc := 59) (jc_X9_67 dX9_told_59 rfl) rfl rfl (Nat.le_of_ble_eq_true rfl) (mF_k hM) ?_
        refine m_of hM (i := i) (j := 1) (by omega) ?_
        refine V_iret (pc := 62) dX9_told_62 rfl rfl ?_
        exact h A sc.rf
      | 2, hq, he => 
        cases hq
        have e12 : what = (2 : Int32) := Int32.toInt_inj.mp (by rw [he]; decide)
        subst e12
        unfold o_told at h
        rw [if_pos (by omega), if_pos (by decide), ci, show (2 : Int32).toNatClampNeg = 2 from by decide] at h
        refine V_aln (pc := 56) dX9_told_56 rfl rfl ?_
        refine V_iln (pc := 57) dX9_told_57 rfl rfl ?_
        refine V_iln (pc := 58) dX9_told_58 rfl rfl ?_
        refine V_cVi0 (pc := 59) (jc_X9_67 dX9_told_59 rfl) rfl rfl (Nat.le_of_ble_eq_true rfl) (mF_k hM) ?_
        refine m_of hM (i := i) (j := 2) (by omega) ?_
        refine V_iret (pc := 62) dX9_told_62 rfl rfl ?_
        exact h A sc.rf
      | 3, hq, he => 
        cases hq
        have e12 : what = (3 : Int32) := Int32.toInt_inj.mp (by rw [he]; decide)
        subst e12
        unfold o_told at h
        rw [if_pos (by omega), if_pos (by decide), ci, show (3 : Int32).toNatClampNeg = 3 from by decide] at h
        refine V_aln (pc := 56) dX9_told_56 rfl rfl ?_
        refine V_iln (pc := 57) dX9_told_57 rfl rfl ?_
        refine V_iln (pc := 58) dX9_told_58 rfl rfl ?_
        refine V_cVi0 (pc := 59) (jc_X9_67 dX9_told_59 rfl) rfl rfl (Nat.le_of_ble_eq_true rfl) (mF_k hM) ?_
        refine m_of hM (i := i) (j := 3) (by omega) ?_
        refine V_iret (pc := 62) dX9_told_62 rfl rfl ?_
        exact h A sc.rf
      | 4, hq, he => 
        cases hq
        have e12 : what = (4 : Int32) := Int32.toInt_inj.mp (by rw [he]; decide)
        subst e12
        unfold o_told at h
        rw [if_pos (by omega), if_neg (by decide), if_pos rfl, ci] at h
        refine V_aln (pc := 63) dX9_told_63 rfl rfl ?_
        refine V_iln (pc := 64) dX9_told_64 rfl rfl ?_
        refine V_cVi0 (pc := 65) (jc_X9_102 dX9_told_65 rfl) rfl rfl (Nat.le_of_ble_eq_true rfl) (mF_k hM) ?_
        refine m_loses hM hI (by omega) (fun A2 hs => ?_)
        refine V_iret (pc := 68) dX9_told_68 rfl rfl ?_
        exact h A2 hs
      | 5, hq, he => 
        cases hq
        have e12 : what = (5 : Int32) := Int32.toInt_inj.mp (by rw [he]; decide)
        subst e12
        unfold o_told at h
        rw [if_pos (by omega), if_neg (by decide), if_neg (by decide), if_pos rfl, ci] at h
        refine V_aln (pc := 69) dX9_told_69 rfl rfl ?_
        refine V_iln (pc := 70) dX9_told_70 rfl rfl ?_
        refine V_cVi0 (pc := 71) (jc_X9_109 dX9_told_71 rfl) rfl rfl (Nat.le_of_ble_eq_true rfl) (mF_k hM) ?_
        refine m_losesAtFall hM hI (by omega) (fun A2 hs => ?_)
        refine V_iret (pc := 74) dX9_told_74 rfl rfl ?_
        exact h A2 hs
      | 6, hq, he => 
        cases hq
        have e12 : what = (6 : Int32) := Int32.toInt_inj.mp (by rw [he]; decide)
        subst e12
        unfold o_told at h
        rw [if_pos (by omega), if_neg (by decide), if_neg (by decide), if_neg (by decide), if_pos rfl, ci] at h
        refine V_aln (pc := 75) dX9_told_75 rfl rfl ?_
        refine V_iln (pc := 76) dX9_told_76 rfl rfl ?_
        refine V_cVi0 (pc := 77) (jc_X9_112 dX9_told_77 rfl) rfl rfl (Nat.le_of_ble_eq_true rfl) (mF_k hM) ?_
        refine m_worth hM (by omega) ?_
        refine V_iret (pc := 80) dX9_told_80 rfl rfl ?_
        exact h A sc.rf
      | n + 7, hq, _ => simp at hq
    · have ho12 : (what).toInt < 0 ∨ 7 ≤ (what).toInt := by have q := ho12; simp only [List.length_cons, List.length_nil] at q; omega
      unfold o_told at h
      rw [if_pos (by omega), if_neg (by omega), if_neg (fun q => by rw [q] at ho12; revert ho12; decide), if_neg (fun q => by rw [q] at ho12; revert ho12; decide), if_neg (fun q => by rw [q] at ho12; revert ho12; decide)] at h
      refine V_ldc (pc := 81) dX9_told_81 (KC_X9_82 rfl) ?_
      refine V_iret (pc := 83) dX9_told_83 rfl rfl ?_
      exact h A sc.rf
  · refine V_ne (pc := 5) (t := 11) dX9_told_5 (by decide) (fun h => absurd h (by decide)) (fun _ => ?_)
    refine V_ldc (pc := 8) dX9_told_8 (KC_X9_82 rfl) ?_
    refine V_iret (pc := 10) dX9_told_10 rfl rfl ?_
    unfold o_told at h; rw [if_neg ni] at h
    exact h A sc.rf
def o_as (σ : Nat → Int32) (n : Nat) (w k : Int32) : Int32 := if 0 ≤ w.toInt ∧ w.toInt < n ∧ 0 ≤ k.toInt ∧ k.toInt ≤ 5 then (if fisOf (σ (14 + 4 * w.toNatClampNeg + 0)) k then σ (14 + 4 * w.toNatClampNeg + 2) else -1000000012) else -1000000001
set_option maxHeartbeats 4000000 in
theorem M_as {x : pX} {d : Nat} {S : pS} {m : Nat} {as : Nat → Nat} {A : Nat → Nat → Int32} {F : Nat → Int32} {Q : Int32 → pS → Prop} (hM : MF S m as) {n nt np : Nat} {w k : Int32} (hI : MI (A 288) n nt np) (h : Q (o_as (A 288) n w k) (mP S m as A F)) : PI x (d + 3) M_X9_as [.ref m, .int w, .int k] (mP S m as A F) Q := by
  have hn10 := hI.1.2
  refine PM_of (by decide +kernel) (Nat.le_of_ble_eq_true rfl) ?_
  show V x (d + 3) M_X9_as (qi Q) (0, 0) 0 [(0, .ref m), (1, .int w), (2, .int k)] [] (mP S m as A F)
  refine V_aln (pc := 0) dX9_as_0 rfl rfl ?_
  refine V_iln (pc := 1) dX9_as_1 rfl rfl ?_
  refine V_cVi0 (pc := 2) (jc_X9_105 dX9_as_2 rfl) rfl rfl (Nat.le_of_ble_eq_true rfl) (mF_k hM) ?_
  refine m_isWeight hM hI.1.1 (by omega) (fun i hi ei ti ci => ?_) (fun ni => ?_)
  · subst ei
    refine V_eq (pc := 5) (t := 20) dX9_as_5 (by decide) (fun h => absurd h (by decide)) (fun _ => ?_)
    refine V_iln (pc := 8) dX9_as_8 rfl rfl ?_
    refine V_i2l (pc := 9) dX9_as_9 ?_
    refine V_lconst (pc := 10) (v := 0) dX9_as_10 (by decide) ?_
    refine V_ldc2 (pc := 11) dX9_as_11 (KC_X9_78 rfl) ?_
    refine V_cSi0 (pc := 14) (jc_X9_62 dX9_as_14 rfl) rfl rfl (Nat.le_of_ble_eq_true rfl) ?_
    refine m_isIn (l := 0) 0 5 (by decide) (by decide) (fun a1 a2 => ?_) (fun a0 => ?_)
    · refine V_ne (pc := 17) (t := 23) dX9_as_17 (by decide) (fun _ => ?_) (fun h => absurd h (by decide))
      refine V_aln (pc := 23) dX9_as_23 rfl rfl ?_
      refine V_iln (pc := 24) dX9_as_24 rfl rfl ?_
      refine V_iconst (pc := 25) (v := 0) dX9_as_25 (by decide) ?_
      refine V_cVi0 (pc := 26) (jc_X9_67 dX9_as_26 rfl) rfl rfl (Nat.le_of_ble_eq_true rfl) (mF_k hM) ?_
      refine m_of hM (i := i) (j := 0) (by omega) ?_
      refine V_iln (pc := 29) dX9_as_29 rfl rfl ?_
      refine V_cSi0 (pc := 30) (jc_X9_115 dX9_as_30 rfl) rfl rfl (Nat.le_of_ble_eq_true rfl) ?_
      unfold o_as at h; rw [if_pos (by omega), ci] at h
      refine m_isOf (fun q => ?_) (fun q => ?_)
      · rw [if_pos q] at h
        refine V_eq (pc := 33) (t := 45) dX9_as_33 (by decide) (fun h => absurd h (by decide)) (fun _ => ?_)
        refine V_aln (pc := 36) dX9_as_36 rfl rfl ?_
        refine V_iln (pc := 37) dX9_as_37 rfl rfl ?_
        refine V_iconst (pc := 38) (v := 2) dX9_as_38 (by decide) ?_
        refine V_cVi0 (pc := 39) (jc_X9_67 dX9_as_39 rfl) rfl rfl (Nat.le_of_ble_eq_true rfl) (mF_k hM) ?_
        refine m_of hM (i := i) (j := 2) (by omega) ?_
        refine V_goto (pc := 42) (t := 47) dX9_as_42 (by decide) ?_
        refine V_iret (pc := 47) dX9_as_47 rfl rfl ?_
        exact h
      · rw [if_neg q] at h
        refine V_eq (pc := 33) (t := 45) dX9_as_33 (by decide) (fun _ => ?_) (fun h => absurd h (by decide))
        refine V_ldc (pc := 45) dX9_as_45 (KC_X9_119 rfl) ?_
        refine V_iret (pc := 47) dX9_as_47 rfl rfl ?_
        exact h
    · refine V_ne (pc := 17) (t := 23) dX9_as_17 (by decide) (fun h => absurd h (by decide)) (fun _ => ?_)
      refine V_ldc (pc := 20) dX9_as_20 (KC_X9_82 rfl) ?_
      refine V_iret (pc := 22) dX9_as_22 rfl rfl ?_
      unfold o_as at h; rw [if_neg (by omega)] at h
      exact h
  · refine V_eq (pc := 5) (t := 20) dX9_as_5 (by decide) (fun _ => ?_) (fun h => absurd h (by decide))
    refine V_ldc (pc := 20) dX9_as_20 (KC_X9_82 rfl) ?_
    refine V_iret (pc := 22) dX9_as_22 rfl rfl ?_
    unfold o_as at h; rw [if_neg (by omega)] at h
    exact h
def o_turns (σ : Nat → Int32) (n : Nat) (w k : Int32) : Int32 × (Nat → Int32) := if 0 ≤ w.toInt ∧ w.toInt < n ∧ 0 ≤ k.toInt ∧ k.toInt ≤ 5 then (σ (14 + 4 * w.toNatClampNeg + 0), upd σ (14 + 4 * w.toNatClampNeg + 0) k) else (-1000000001, σ)
def o_file (σ : Nat → Int32) (n : Nat) (w v : Int32) : Int32 × (Nat → Int32) := if 0 ≤ w.toInt ∧ w.toInt < n ∧ 0 ≤ v.toInt ∧ v.toInt ≤ 999 then (σ (14 + 4 * w.toNatClampNeg + 2), upd σ (14 + 4 * w.toNatClampNeg + 2) v) else (-1000000001, σ)
def o_arm (σ : Nat → Int32) (b s v : Int32) : Int32 × (Nat → Int32) := if 0 ≤ b.toInt ∧ b.toInt ≤ 3 ∧ 0 ≤ s.toInt ∧ s.toInt ≤ 1 ∧ 90 ≤ v.toInt ∧ v.toInt ≤ 110 then (σ (6 + 2 * b.toNatClampNeg + s.toNatClampNeg), upd σ (6 + 2 * b.toNatClampNeg + s.toNatClampNeg) v) else (-1000000001, σ)
set_option maxHeartbeats 4000000 in
theorem M_turns {x : pX} {d : Nat} {S : pS} {m : Nat} {as : Nat → Nat} {A : Nat → Nat → Int32} {F : Nat → Int32} {Q : Int32 → pS → Prop} (hM : MF S m as) {n nt np : Nat} {w k : Int32} (hI : MI (A 288) n nt np) (h : ∀ A2, sc (uA A (o_turns (A 288) n w k).2) A2 → Q (o_turns (A 288) n w k).1 (mP S m as A2 F)) : PI x (d + 3) M_X9_turns [.ref m, .int w, .int k] (mP S m as A F) Q := by
  have hn10 := hI.1.2
  refine PM_of (by decide +kernel) (Nat.le_of_ble_eq_true rfl) ?_
  show V x (d + 3) M_X9_turns (qi Q) (0, 0) 0 [(0, .ref m), (1, .int w), (2, .int k)] [] (mP S m as A F)
  refine V_aln (pc := 0) dX9_turns_0 rfl rfl ?_
  refine V_iln (pc := 1) dX9_turns_1 rfl rfl ?_
  refine V_cVi0 (pc := 2) (jc_X9_105 dX9_turns_2 rfl) rfl rfl (Nat.le_of_ble_eq_true rfl) (mF_k hM) ?_
  refine m_isWeight hM hI.1.1 (by omega) (fun i hi ei ti ci => ?_) (fun ni => ?_)
  · subst ei
    refine V_eq (pc := 5) (t := 34) dX9_turns_5 (by decide) (fun h => absurd h (by decide)) (fun _ => ?_)
    refine V_iln (pc := 8) dX9_turns_8 rfl rfl ?_
    refine V_i2l (pc := 9) dX9_turns_9 ?_
    refine V_lconst (pc := 10) (v := 0) dX9_turns_10 (by decide) ?_
    refine V_ldc2 (pc := 11) dX9_turns_11 (KC_X9_78 rfl) ?_
    refine V_cSi0 (pc := 14) (jc_X9_62 dX9_turns_14 rfl) rfl rfl (Nat.le_of_ble_eq_true rfl) ?_
    refine m_isIn (l := 0) 0 5 (by decide) (by decide) (fun a1 a2 => ?_) (fun a0 => ?_)
    · refine V_eq (pc := 17) (t := 34) dX9_turns_17 (by decide) (fun h => absurd h (by decide)) (fun _ => ?_)
      refine V_aln (pc := 20) dX9_turns_20 rfl rfl ?_
      refine V_bipush (pc := 21) (v := 14) dX9_turns_21 (by decide) ?_
      refine V_iconst (pc := 23) (v := 4) dX9_turns_23 (by decide) ?_
      refine V_iln (pc := 24) dX9_turns_24 rfl rfl ?_
      refine V_imul (pc := 25) dX9_turns_25 ?_
      refine V_iadd (pc := 26) dX9_turns_26 ?_
      refine V_iln (pc := 27) dX9_turns_27 rfl rfl ?_
      refine V_cVi0 (pc := 28) (jc_X9_120 dX9_turns_28 rfl) rfl rfl (Nat.le_of_ble_eq_true rfl) (mF_k hM) ?_
      unfold o_turns at h; rw [if_pos (by omega), ci] at h
      have ex : (14 + 4 * nI i : Int32) = nI (14 + 4 * i) := by simp only [fa_lit, nI_add, pk_mul]
      rw [ex]
      refine m_becomes hM (by omega) ?_
      refine V_goto (pc := 31) (t := 36) dX9_turns_31 (by decide) ?_
      refine V_iret (pc := 36) dX9_turns_36 rfl rfl ?_
      first | exact h _ sc.rf | (unfold o_turns at h; rw [if_neg (by omega), uA_self] at h; exact h A sc.rf)
    · refine V_eq (pc := 17) (t := 34) dX9_turns_17 (by decide) (fun _ => ?_) (fun h => absurd h (by decide))
      refine V_ldc (pc := 34) dX9_turns_34 (KC_X9_82 rfl) ?_
      refine V_iret (pc := 36) dX9_turns_36 rfl rfl ?_
      first | exact h _ sc.rf | (unfold o_turns at h; rw [if_neg (by omega), uA_self] at h; exact h A sc.rf)
  · refine V_eq (pc := 5) (t := 34) dX9_turns_5 (by decide) (fun _ => ?_) (fun h => absurd h (by decide))
    refine V_ldc (pc := 34) dX9_turns_34 (KC_X9_82 rfl) ?_
    refine V_iret (pc := 36) dX9_turns_36 rfl rfl ?_
    first | exact h _ sc.rf | (unfold o_turns at h; rw [if_neg (by omega), uA_self] at h; exact h A sc.rf)
set_option maxHeartbeats 4000000 in
theorem M_file {x : pX} {d : Nat} {S : pS} {m : Nat} {as : Nat → Nat} {A : Nat → Nat → Int32} {F : Nat → Int32} {Q : Int32 → pS → Prop} (hM : MF S m as) {n nt np : Nat} {w v : Int32} (hI : MI (A 288) n nt np) (h : ∀ A2, sc (uA A (o_file (A 288) n w v).2) A2 → Q (o_file (A 288) n w v).1 (mP S m as A2 F)) : PI x (d + 3) M_X9_file [.ref m, .int w, .int v] (mP S m as A F) Q := by
  have hn10 := hI.1.2
  refine PM_of (by decide +kernel) (Nat.le_of_ble_eq_true rfl) ?_
  show V x (d + 3) M_X9_file (qi Q) (0, 0) 0 [(0, .ref m), (1, .int w), (2, .int v)] [] (mP S m as A F)
  refine V_aln (pc := 0) dX9_file_0 rfl rfl ?_
  refine V_iln (pc := 1) dX9_file_1 rfl rfl ?_
  refine V_cVi0 (pc := 2) (jc_X9_105 dX9_file_2 rfl) rfl rfl (Nat.le_of_ble_eq_true rfl) (mF_k hM) ?_
  refine m_isWeight hM hI.1.1 (by omega) (fun i hi ei ti ci => ?_) (fun ni => ?_)
  · subst ei
    refine V_eq (pc := 5) (t := 36) dX9_file_5 (by decide) (fun h => absurd h (by decide)) (fun _ => ?_)
    refine V_iln (pc := 8) dX9_file_8 rfl rfl ?_
    refine V_i2l (pc := 9) dX9_file_9 ?_
    refine V_lconst (pc := 10) (v := 0) dX9_file_10 (by decide) ?_
    refine V_ldc2 (pc := 11) dX9_file_11 (KC_X9_80 rfl) ?_
    refine V_cSi0 (pc := 14) (jc_X9_62 dX9_file_14 rfl) rfl rfl (Nat.le_of_ble_eq_true rfl) ?_
    refine m_isIn (l := 0) 0 999 (by decide) (by decide) (fun a1 a2 => ?_) (fun a0 => ?_)
    · refine V_eq (pc := 17) (t := 36) dX9_file_17 (by decide) (fun h => absurd h (by decide)) (fun _ => ?_)
      refine V_aln (pc := 20) dX9_file_20 rfl rfl ?_
      refine V_bipush (pc := 21) (v := 14) dX9_file_21 (by decide) ?_
      refine V_iconst (pc := 23) (v := 4) dX9_file_23 (by decide) ?_
      refine V_iln (pc := 24) dX9_file_24 rfl rfl ?_
      refine V_imul (pc := 25) dX9_file_25 ?_
      refine V_iadd (pc := 26) dX9_file_26 ?_
      refine V_iconst (pc := 27) (v := 2) dX9_file_27 (by decide) ?_
      refine V_iadd (pc := 28) dX9_file_28 ?_
      refine V_iln (pc := 29) dX9_file_29 rfl rfl ?_
      refine V_cVi0 (pc := 30) (jc_X9_120 dX9_file_30 rfl) rfl rfl (Nat.le_of_ble_eq_true rfl) (mF_k hM) ?_
      unfold o_file at h; rw [if_pos (by omega), ci] at h
      have ex : (14 + 4 * nI i + 2 : Int32) = nI (14 + 4 * i + 2) := by simp only [fa_lit, nI_add, pk_mul]
      rw [ex]
      refine m_becomes hM (by omega) ?_
      refine V_goto (pc := 33) (t := 38) dX9_file_33 (by decide) ?_
      refine V_iret (pc := 38) dX9_file_38 rfl rfl ?_
      first | exact h _ sc.rf | (unfold o_file at h; rw [if_neg (by omega), uA_self] at h; exact h A sc.rf)
    · refine V_eq (pc := 17) (t := 36) dX9_file_17 (by decide) (fun _ => ?_) (fun h => absurd h (by decide))
      refine V_ldc (pc := 36) dX9_file_36 (KC_X9_82 rfl) ?_
      refine V_iret (pc := 38) dX9_file_38 rfl rfl ?_
      first | exact h _ sc.rf | (unfold o_file at h; rw [if_neg (by omega), uA_self] at h; exact h A sc.rf)
  · refine V_eq (pc := 5) (t := 36) dX9_file_5 (by decide) (fun _ => ?_) (fun h => absurd h (by decide))
    refine V_ldc (pc := 36) dX9_file_36 (KC_X9_82 rfl) ?_
    refine V_iret (pc := 38) dX9_file_38 rfl rfl ?_
    first | exact h _ sc.rf | (unfold o_file at h; rw [if_neg (by omega), uA_self] at h; exact h A sc.rf)
set_option maxHeartbeats 4000000 in
theorem m_isBalance {x : pX} {d : Nat} {S : pS} {Q : Int32 → pS → Prop} {b : Int32} (h1 : ∀ i, i < 4 → b = nI i → (nI i).toInt = i → (nI i).toNatClampNeg = i → Q 1 S) (h0 : ¬ (0 ≤ b.toInt ∧ b.toInt ≤ 3) → Q 0 S) : PI x (d + 1) M_X9_isBalance [.int b] S Q := by
  refine PM_of (by decide +kernel) (Nat.le_of_ble_eq_true rfl) ?_
  show V x (d + 1) M_X9_isBalance (qi Q) (0, 0) 0 [(0, .int b)] [] S
  refine V_iln (pc := 0) dX9_isBalance_0 rfl rfl ?_
  refine V_lt (pc := 1) (t := 13) dX9_isBalance_1 (by decide) (fun h1_ => ?_) (fun h1_ => ?_)
  · refine V_iconst (pc := 13) (v := 0) dX9_isBalance_13 (by decide) ?_
    refine V_iret (pc := 14) dX9_isBalance_14 rfl rfl ?_
    first | (obtain ⟨i, hi, e, e2, e3⟩ := idx_of (w := b) (n := 4) (by decide) (by have := (fa_le 0 b).mp (Int32.not_lt.mp h1_); simpa using this) (by have := (fa_le b 3).mp (Int32.not_lt.mp h6); simp at this; omega); exact h1 i hi e e2 e3) | (refine h0 ?_; have := (fa_lt b 0).mp h1_; simp at this; omega) | (refine h0 ?_; have := (fa_lt 3 b).mp h6; simp at this; omega)
  · refine V_iln (pc := 4) dX9_isBalance_4 rfl rfl ?_
    refine V_iconst (pc := 5) (v := 3) dX9_isBalance_5 (by decide) ?_
    refine V_cgt (pc := 6) (t := 13) dX9_isBalance_6 (by decide) (fun h6 => ?_) (fun h6 => ?_)
    · refine V_iconst (pc := 13) (v := 0) dX9_isBalance_13 (by decide) ?_
      refine V_iret (pc := 14) dX9_isBalance_14 rfl rfl ?_
      first | (obtain ⟨i, hi, e, e2, e3⟩ := idx_of (w := b) (n := 4) (by decide) (by have := (fa_le 0 b).mp (Int32.not_lt.mp h1_); simpa using this) (by have := (fa_le b 3).mp (Int32.not_lt.mp h6); simp at this; omega); exact h1 i hi e e2 e3) | (refine h0 ?_; have := (fa_lt b 0).mp h1_; simp at this; omega) | (refine h0 ?_; have := (fa_lt 3 b).mp h6; simp at this; omega)
    · refine V_iconst (pc := 9) (v := 1) dX9_isBalance_9 (by decide) ?_
      refine V_goto (pc := 10) (t := 14) dX9_isBalance_10 (by decide) ?_
      refine V_iret (pc := 14) dX9_isBalance_14 rfl rfl ?_
      first | (obtain ⟨i, hi, e, e2, e3⟩ := idx_of (w := b) (n := 4) (by decide) (by have := (fa_le 0 b).mp (Int32.not_lt.mp h1_); simpa using this) (by have := (fa_le b 3).mp (Int32.not_lt.mp h6); simp at this; omega); exact h1 i hi e e2 e3) | (refine h0 ?_; have := (fa_lt b 0).mp h1_; simp at this; omega) | (refine h0 ?_; have := (fa_lt 3 b).mp h6; simp at this; omega)
set_option maxHeartbeats 4000000 in
theorem M_arm {x : pX} {d : Nat} {S : pS} {m : Nat} {as : Nat → Nat} {A : Nat → Nat → Int32} {F : Nat → Int32} {Q : Int32 → pS → Prop} (hM : MF S m as) {bl sd v : Int32} (h : ∀ A2, sc (uA A (o_arm (A 288) bl sd v).2) A2 → Q (o_arm (A 288) bl sd v).1 (mP S m as A2 F)) : PI x (d + 2) M_X9_arm [.ref m, .int bl, .int sd, .int v] (mP S m as A F) Q := by
  refine PM_of (by decide +kernel) (Nat.le_of_ble_eq_true rfl) ?_
  show V x (d + 2) M_X9_arm (qi Q) (0, 0) 0 [(0, .ref m), (1, .int bl), (2, .int sd), (3, .int v)] [] (mP S m as A F)
  refine V_iln (pc := 0) dX9_arm_0 rfl rfl ?_
  refine V_cSi0 (pc := 1) (jc_X9_123 dX9_arm_1 rfl) rfl rfl (Nat.le_of_ble_eq_true rfl) ?_
  refine m_isBalance (fun b1 hb1 eb1 tb1 cb1 => ?_) (fun nb => ?_)
  · subst eb1
    refine V_eq (pc := 4) (t := 47) dX9_arm_4 (by decide) (fun h => absurd h (by decide)) (fun _ => ?_)
    refine V_iln (pc := 7) dX9_arm_7 rfl rfl ?_
    refine V_i2l (pc := 8) dX9_arm_8 ?_
    refine V_lconst (pc := 9) (v := 0) dX9_arm_9 (by decide) ?_
    refine V_lconst (pc := 10) (v := 1) dX9_arm_10 (by decide) ?_
    refine V_cSi0 (pc := 11) (jc_X9_62 dX9_arm_11 rfl) rfl rfl (Nat.le_of_ble_eq_true rfl) ?_
    refine m_isIn (l := 0) 0 1 (by decide) (by decide) (fun a1 a2 => ?_) (fun a0 => ?_)
    · refine V_eq (pc := 14) (t := 47) dX9_arm_14 (by decide) (fun h => absurd h (by decide)) (fun _ => ?_)
      refine V_iln (pc := 17) dX9_arm_17 rfl rfl ?_
      refine V_i2l (pc := 18) dX9_arm_18 ?_
      refine V_ldc2 (pc := 19) dX9_arm_19 (KC_X9_126 rfl) ?_
      refine V_ldc2 (pc := 22) dX9_arm_22 (KC_X9_128 rfl) ?_
      refine V_cSi0 (pc := 25) (jc_X9_62 dX9_arm_25 rfl) rfl rfl (Nat.le_of_ble_eq_true rfl) ?_
      refine m_isIn (l := 90) 90 110 (by decide) (by decide) (fun c1 c2 => ?_) (fun c0 => ?_)
      · refine V_eq (pc := 28) (t := 47) dX9_arm_28 (by decide) (fun h => absurd h (by decide)) (fun _ => ?_)
        refine V_aln (pc := 31) dX9_arm_31 rfl rfl ?_
        refine V_bipush (pc := 32) (v := 6) dX9_arm_32 (by decide) ?_
        refine V_iconst (pc := 34) (v := 2) dX9_arm_34 (by decide) ?_
        refine V_iln (pc := 35) dX9_arm_35 rfl rfl ?_
        refine V_imul (pc := 36) dX9_arm_36 ?_
        refine V_iadd (pc := 37) dX9_arm_37 ?_
        refine V_iln (pc := 38) dX9_arm_38 rfl rfl ?_
        refine V_iadd (pc := 39) dX9_arm_39 ?_
        refine V_iln (pc := 40) dX9_arm_40 rfl rfl ?_
        refine V_cVi0 (pc := 41) (jc_X9_120 dX9_arm_41 rfl) rfl rfl (Nat.le_of_ble_eq_true rfl) (mF_k hM) ?_
        unfold o_arm at h; rw [if_pos (by omega), cb1] at h
        obtain ⟨j, hj, e, e2, e3⟩ := idx_of (w := sd) (n := 2) (by decide) a1 (by omega)
        subst e
        rw [e3] at h
        have ex : (6 + 2 * nI b1 + nI j : Int32) = nI (6 + 2 * b1 + j) := by simp only [fa_lit, nI_add, pk_mul]
        rw [ex]
        refine m_becomes hM (by omega) ?_
        refine V_goto (pc := 44) (t := 49) dX9_arm_44 (by decide) ?_
        refine V_iret (pc := 49) dX9_arm_49 rfl rfl ?_
        first | exact h _ sc.rf | (unfold o_arm at h; rw [if_neg (by omega), uA_self] at h; exact h A sc.rf)
      · refine V_eq (pc := 28) (t := 47) dX9_arm_28 (by decide) (fun _ => ?_) (fun h => absurd h (by decide))
        refine V_ldc (pc := 47) dX9_arm_47 (KC_X9_82 rfl) ?_
        refine V_iret (pc := 49) dX9_arm_49 rfl rfl ?_
        first | exact h _ sc.rf | (unfold o_arm at h; rw [if_neg (by omega), uA_self] at h; exact h A sc.rf)
    · refine V_eq (pc := 14) (t := 47) dX9_arm_14 (by decide) (fun _ => ?_) (fun h => absurd h (by decide))
      refine V_ldc (pc := 47) dX9_arm_47 (KC_X9_82 rfl) ?_
      refine V_iret (pc := 49) dX9_arm_49 rfl rfl ?_
      first | exact h _ sc.rf | (unfold o_arm at h; rw [if_neg (by omega), uA_self] at h; exact h A sc.rf)
  · refine V_eq (pc := 4) (t := 47) dX9_arm_4 (by decide) (fun _ => ?_) (fun h => absurd h (by decide))
    refine V_ldc (pc := 47) dX9_arm_47 (KC_X9_82 rfl) ?_
    refine V_iret (pc := 49) dX9_arm_49 rfl rfl ?_
    first | exact h _ sc.rf | (unfold o_arm at h; rw [if_neg (by omega), uA_self] at h; exact h A sc.rf)
def o_seed (σ : Nat → Int32) (v : Int32) : Int32 × (Nat → Int32) := (σ 4, upd σ 4 v)
/-- the next number of the lot, and what is drawn by it -/
def nx (z : Int32) : Int32 := z * 1103515245 + 12345
def dr (z : Int32) : Int32 := (z.toUInt32 >>> ((8 : Int32).toUInt32 &&& Int32.toUInt32 31)).toInt32
def rm (a b : Int32) : Int32 := a - a / b * b
def deal1 (σ : Nat → Int32) (n : Nat) : Nat → Int32 := sCome (upd σ 4 (nx (nx (σ 4)))) n (rm (dr (nx (σ 4))) 6) (1 + rm (dr (nx (nx (σ 4)))) 400)
def dealt (σ : Nat → Int32) (n : Nat) : Nat → Nat → Int32
  | 0 => σ
  | c + 1 => deal1 (dealt σ n c) (n + c)
def o_deal (σ : Nat → Int32) (n : Nat) (v : Int32) : Int32 × (Nat → Int32) := if 1 ≤ v.toInt ∧ v.toInt ≤ 10 then (nI (min v.toNatClampNeg (10 - n)), dealt σ n (min v.toNatClampNeg (10 - n))) else (-1000000001, σ)
theorem sCome_0 (σ : Nat → Int32) (n : Nat) (a b : Int32) : sCome σ n a b 0 = nI (n + 1) := by
  unfold sCome
  rw [pk_un (by omega), pk_un (by omega), pk_un (by omega), pk_un (by omega), pk_us]
theorem dealt_0 (σ : Nat → Int32) (n : Nat) (h : σ 0 = nI n) : ∀ c, dealt σ n c 0 = nI (n + c)
  | 0 => h
  | c + 1 => by show deal1 (dealt σ n c) (n + c) 0 = _; exact sCome_0 _ _ _ _
set_option maxHeartbeats 4000000 in
theorem M_seed {x : pX} {d : Nat} {S : pS} {m : Nat} {as : Nat → Nat} {A : Nat → Nat → Int32} {F : Nat → Int32} {Q : Int32 → pS → Prop} (hM : MF S m as) {v : Int32} (h : ∀ A2, sc (uA A (o_seed (A 288) v).2) A2 → Q (o_seed (A 288) v).1 (mP S m as A2 F)) : PI x (d + 2) M_X9_seed [.ref m, .int v] (mP S m as A F) Q := by
  refine PM_of (by decide +kernel) (Nat.le_of_ble_eq_true rfl) ?_
  show V x (d + 2) M_X9_seed (qi Q) (0, 0) 0 [(0, .ref m), (1, .int v)] [] (mP S m as A F)
  refine V_aln (pc := 0) dX9_seed_0 rfl rfl ?_
  refine V_iconst (pc := 1) (v := 4) dX9_seed_1 (by decide) ?_
  refine V_iln (pc := 2) dX9_seed_2 rfl rfl ?_
  refine V_cVi0 (pc := 3) (jc_X9_120 dX9_seed_3 rfl) rfl rfl (Nat.le_of_ble_eq_true rfl) (mF_k hM) ?_
  refine m_becomes hM (k := 4) (by decide) ?_
  refine V_iret (pc := 6) dX9_seed_6 rfl rfl ?_
  exact h _ sc.rf
set_option maxHeartbeats 4000000 in
theorem m_deal_L {x : pX} {d : Nat} {S : pS} {m : Nat} {as : Nat → Nat} {F : Nat → Int32} {b : Nat × Nat} {Q : Int32 → pS → Prop} (hM : MF S m as) {σ : Nat → Int32} {A0 : Nat → Nat → Int32} {n N : Nat} (hn : σ 0 = nI n) (hn10 : n ≤ 10) (hN : N ≤ 10) (h : ∀ A2, sc (uA A0 (dealt σ n (min N (10 - n)))) A2 → Q (nI (min N (10 - n))) (mP S m as A2 F)) : ∀ (c k : Nat), k + c = min N (10 - n) → ∀ (A : Nat → Nat → Int32), sc (uA A0 (dealt σ n k)) A → V x (d + 3) M_X9_deal (qi Q) b 17 [(0, .ref m), (1, .int (nI N)), (2, .int (nI k))] [] (mP S m as A F) := by
  intro c
  induction c with
  | zero =>
    intro k hk A hA
    have e0 : A 288 0 = nI (n + k) := by rw [sc_self hA, uA_at]; exact dealt_0 σ n hn k
    refine V_iln (pc := 17) dX9_deal_17 rfl rfl ?_
    refine V_iln (pc := 18) dX9_deal_18 rfl rfl ?_
    refine V_cge (pc := 19) (t := 62) dX9_deal_19 (by decide) (fun h19 => ?_) (fun h19 => ?_)
    · refine V_iln (pc := 62) dX9_deal_62 rfl rfl ?_
      refine V_iret (pc := 63) dX9_deal_63 rfl rfl ?_
      rw [show k = min N (10 - n) by omega]
      exact h A (by rw [← show k = min N (10 - n) by omega]; exact hA)
    · have hk2 : k < N := by
        rcases Nat.lt_or_ge k N with q | q
        · exact q
        · exact absurd (nI_le q (by omega)) h19
      refine V_aln (pc := 22) dX9_deal_22 rfl rfl ?_
      refine M_gr (pc := 23) hM 0 288 dX9_deal_23 (FL_X9_7 rfl) rfl rfl (by decide) ?_
      refine V_iconst (pc := 26) (v := 0) dX9_deal_26 (by decide) ?_
      refine M_ia (pc := 27) hM 288 0 dX9_deal_27 (by decide) (by decide) (by simp only [fa_lit, nI_add, pk_mul]) (by show (_ : Nat) < 3154; omega) ?_
      refine V_bipush (pc := 28) (v := 10) dX9_deal_28 (by decide) ?_
      refine V_cge (pc := 30) (t := 62) dX9_deal_30 (by decide) (fun h30 => ?_) (fun h30 => ?_)
      · refine V_iln (pc := 62) dX9_deal_62 rfl rfl ?_
        refine V_iret (pc := 63) dX9_deal_63 rfl rfl ?_
        rw [show k = min N (10 - n) by omega]
        exact h A (by rw [← show k = min N (10 - n) by omega]; exact hA)
      · exact absurd (by rw [e0]; exact nI_le (a := 10) (by omega) (by omega)) h30
  | succ c ih =>
    intro k hk A hA
    have e0 : A 288 0 = nI (n + k) := by rw [sc_self hA, uA_at]; exact dealt_0 σ n hn k
    refine V_iln (pc := 17) dX9_deal_17 rfl rfl ?_
    refine V_iln (pc := 18) dX9_deal_18 rfl rfl ?_
    refine V_cge (pc := 19) (t := 62) dX9_deal_19 (by decide) (fun h19 => ?_) (fun h19 => ?_)
    · exact absurd h19 (nI_ge (by omega) (by omega))
    · refine V_aln (pc := 22) dX9_deal_22 rfl rfl ?_
      refine M_gr (pc := 23) hM 0 288 dX9_deal_23 (FL_X9_7 rfl) rfl rfl (by decide) ?_
      refine V_iconst (pc := 26) (v := 0) dX9_deal_26 (by decide) ?_
      refine M_ia (pc := 27) hM 288 0 dX9_deal_27 (by decide) (by decide) (by simp only [fa_lit, nI_add, pk_mul]) (by show (_ : Nat) < 3154; omega) ?_
      refine V_bipush (pc := 28) (v := 10) dX9_deal_28 (by decide) ?_
      refine V_cge (pc := 30) (t := 62) dX9_deal_30 (by decide) (fun h30 => ?_) (fun h30 => ?_)
      · exact absurd h30 (by rw [e0]; exact nI_ge (b := 10) (by omega) (by decide))
      · refine V_aln (pc := 33) dX9_deal_33 rfl rfl ?_
        refine V_cVi0 (pc := 34) (jc_X9_132 dX9_deal_34 rfl) rfl rfl (Nat.le_of_ble_eq_true rfl) (mF_k hM) ?_
        refine m_drawn hM (fun z1 hz1 => ?_)
        refine V_bipush (pc := 37) (v := 6) dX9_deal_37 (by decide) ?_
        refine V_irem (pc := 39) dX9_deal_39 (by decide) ?_
        refine V_isn (pc := 40) (fun y => [(0, .ref m), (1, .int (nI N)), (2, .int (nI k)), (3, .int y)]) dX9_deal_40 rfl (by decide) (fun _ => rfl) (fun y40 ey40 => ?_)
        refine V_aln (pc := 41) dX9_deal_41 rfl rfl ?_
        refine V_iln (pc := 42) dX9_deal_42 rfl rfl ?_
        refine V_iconst (pc := 43) (v := 1) dX9_deal_43 (by decide) ?_
        refine V_aln (pc := 44) dX9_deal_44 rfl rfl ?_
        refine V_cVi0 (pc := 45) (jc_X9_132 dX9_deal_45 rfl) rfl rfl (Nat.le_of_ble_eq_true rfl) (mF_k hM) ?_
        refine m_drawn hM (fun z2 hz2 => ?_)
        refine V_sipush (pc := 48) (v := 400) dX9_deal_48 (by decide) ?_
        refine V_irem (pc := 51) dX9_deal_51 (by decide) ?_
        refine V_iadd (pc := 52) dX9_deal_52 ?_
        refine V_cVv0 (pc := 53) (jc_X9_84 dX9_deal_53 rfl) rfl rfl (Nat.le_of_ble_eq_true rfl) (mF_k hM) ?_
        refine m_comes hM (n := n + k) (by rw [uA_at, pk_un (by decide), uA_at, pk_un (by decide)]; exact e0) (by omega) ?_
        refine V_inc (pc := 56) (fun y => [(0, .ref m), (1, .int (nI N)), (2, .int y), (3, .int y40)]) (w := 1) dX9_deal_56 (by decide) (by decide) rfl (fun _ => rfl) (fun y56 ey56 => ?_)
        obtain rfl : y56 = nI (k + 1) := by rw [ey56]; exact nI_1 _
        refine V_goto (pc := 59) (t := 17) dX9_deal_59 (by decide) ?_
        refine V_lp [0, 1, 2] (ls' := [(0, .ref m), (1, .int (nI N)), (2, .int (nI (k + 1)))]) rfl ?_
        refine ih (k + 1) (by omega) _ ?_
        rw [uA_uA, uA_uA, uA_at]
        have e4 : A 288 = dealt σ n k := by rw [sc_self hA, uA_at]
        rw [uA_at, pk_us] at hz2
        subst hz2; subst hz1; subst ey40
        rw [e4]
        rw [uA_at, fa_upd_twice]
        show sc (uA A0 (deal1 (dealt σ n k) (n + k))) _
        unfold deal1 nx dr rm
        exact (fun f a b => by
          by_cases hf : f = 288
          · subst hf; rw [uA_at, uA_at]
          · rw [uA_ne _ _ hf, uA_ne _ _ hf, hA f a b, uA_ne _ _ hf])
set_option maxHeartbeats 4000000 in
theorem M_deal {x : pX} {d : Nat} {S : pS} {m : Nat} {as : Nat → Nat} {A : Nat → Nat → Int32} {F : Nat → Int32} {Q : Int32 → pS → Prop} (hM : MF S m as) {n nt np : Nat} {v : Int32} (hI : MI (A 288) n nt np) (h : ∀ A2, sc (uA A (o_deal (A 288) n v).2) A2 → Q (o_deal (A 288) n v).1 (mP S m as A2 F)) : PI x (d + 3) M_X9_deal [.ref m, .int v] (mP S m as A F) Q := by
  have hn10 := hI.1.2
  refine PM_of (by decide +kernel) (Nat.le_of_ble_eq_true rfl) ?_
  show V x (d + 3) M_X9_deal (qi Q) (0, 0) 0 [(0, .ref m), (1, .int v)] [] (mP S m as A F)
  refine V_iln (pc := 0) dX9_deal_0 rfl rfl ?_
  refine V_i2l (pc := 1) dX9_deal_1 ?_
  refine V_lconst (pc := 2) (v := 1) dX9_deal_2 (by decide) ?_
  refine V_ldc2 (pc := 3) dX9_deal_3 (KC_X9_130 rfl) ?_
  refine V_cSi0 (pc := 6) (jc_X9_62 dX9_deal_6 rfl) rfl rfl (Nat.le_of_ble_eq_true rfl) ?_
  refine m_isIn (l := 1) 1 10 (by decide) (by decide) (fun a1 a2 => ?_) (fun a0 => ?_)
  · refine V_ne (pc := 9) (t := 15) dX9_deal_9 (by decide) (fun _ => ?_) (fun h => absurd h (by decide))
    refine V_iconst (pc := 15) (v := 0) dX9_deal_15 (by decide) ?_
    refine V_isn (pc := 16) (fun y => [(0, .ref m), (1, .int v), (2, .int y)]) dX9_deal_16 rfl (by decide) (fun _ => rfl) (fun y16 ey16 => ?_)
    obtain rfl : y16 = nI 0 := ey16
    obtain ⟨N, hN, e, e2, e3⟩ := idx_of (w := v) (n := 11) (by decide) (by omega) (by omega)
    subst e
    unfold o_deal at h; rw [if_pos (by omega), e3] at h
    exact m_deal_L (A0 := A) (σ := A 288) hM hI.1.1 hn10 (by omega) h (min N (10 - n)) 0 (by omega) A (by rw [show dealt (A 288) n 0 = A 288 from rfl, uA_self]; exact sc.rf)
  · refine V_ne (pc := 9) (t := 15) dX9_deal_9 (by decide) (fun h => absurd h (by decide)) (fun _ => ?_)
    refine V_ldc (pc := 12) dX9_deal_12 (KC_X9_82 rfl) ?_
    refine V_iret (pc := 14) dX9_deal_14 rfl rfl ?_
    unfold o_deal at h; rw [if_neg (by omega), uA_self] at h
    exact h A sc.rf
