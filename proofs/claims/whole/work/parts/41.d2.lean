/-! ===== the class's own methods, beside the model's ===== -/
/-- class and model side by side: cells; what the class holds is what the model's arrays A and ints F say -/
def IV (P : pS) (c m : Nat) (lv im tr ct as : Nat → Nat) (A : Nat → Nat → Int32) (F : Nat → Int32) (n nt np : Nat) : Prop := CS P c lv im tr ct as ∧ MF P m as ∧ CC P c lv im ct A F n nt np
/-- what a call of the class leaves -/
def NX (P P' : pS) (c m : Nat) (lv im tr ct as : Nat → Nat) (A : Nat → Nat → Int32) (F : Nat → Int32) (n nt np : Nat) : Prop := KP m as P P' ∧ IV P' c m lv im tr ct as A F n nt np
section IVS
variable {P P' : pS} {c m : Nat} {lv im tr ct as : Nat → Nat} {A : Nat → Nat → Int32} {F : Nat → Int32} {n nt np : Nat}
theorem NX.rf (h : IV P c m lv im tr ct as A F n nt np) : NX P P c m lv im tr ct as A F n nt np := ⟨KP.rf, h⟩
theorem NX.rfu (h : IV P c m lv im tr ct as A F n nt np) : NX P P c m lv im tr ct as (uA A (A 288)) F n nt np := by rw [uA_self]; exact NX.rf h
theorem IV.live (h : IV P c m lv im tr ct as A F n nt np) (hf : wfr lv P P') {σ : Nat → Int32} {n2 np2 : Nat} (hW : WR P' lv σ) (hl : tl (A 288) σ) (hI : MI σ n2 nt np2) (hV : VI σ n2) : NX P P' c m lv im tr ct as (uA A σ) F n2 nt np2 := by
  obtain ⟨h1, h2, h3⟩ := h.1.live h.2.1.1 h.2.2 hf hW hl hI hV
  exact ⟨h1, h2, h1.mf h.2.1, h3⟩
theorem IV.calm (h : IV P c m lv im tr ct as A F n nt np) (hf : wfr lv P P') (hW : WR P' lv (A 288)) : NX P P' c m lv im tr ct as A F n nt np := by
  obtain ⟨h1, h2, h3⟩ := h.1.calm h.2.1.1 h.2.2 hf hW
  exact ⟨h1, h2, h1.mf h.2.1, h3⟩
theorem IV.z (h : IV P c m lv im tr ct as A F n nt np) (hz : zfr P P') : NX P P' c m lv im tr ct as A F n nt np := h.calm (hz.w lv) (h.2.2.1.1.z h.1.wl hz)
end IVS
theorem MI.up {σ : Nat → Int32} {n nt np : Nat} (h : MI σ n nt np) {k : Nat} (hk : k ≠ 0 ∧ k ≠ 1 ∧ k ≠ 5 ∧ k < 154) (v : Int32) : MI (upd σ k v) n nt np := h.same (fun j hj => pk_un (by omega))
theorem VI.kd {σ : Nat → Int32} {n : Nat} (h : VI σ n) {w q : Nat} (hq : q ≤ 5) : VI (upd σ (14 + 4 * w + 0) (nI q)) n := by
  refine ⟨fun i hi => ?_, ?_⟩
  · obtain ⟨h1, h2, h3⟩ := h.1 i hi
    refine ⟨?_, by rw [pk_un (by omega)]; exact h2, by rw [pk_un (by omega)]; exact h3⟩
    by_cases e : i = w
    · subst e; exact ⟨q, hq, pk_us⟩
    · rw [pk_un (by omega)]; exact h1
  · obtain ⟨s, h1, e⟩ := h.2; exact ⟨s, h1, by rw [pk_un (by omega)]; exact e⟩
set_option maxRecDepth 100000 in
set_option maxHeartbeats 1000000 in
theorem C_weight {x : pX} {d : Nat} {S : pS} {Q : Int32 → pS → Prop} {cc m : Nat} {lv im tr ct as : Nat → Nat} {A : Nat → Nat → Int32} {F : Nat → Int32} {n nt np : Nat} (hI : IV S cc m lv im tr ct as A F n nt np) {kind stamp : Int32} (h : ∀ S2 n2 nt2 np2, NX S S2 cc m lv im tr ct as (uA A (o_weight (A 288) n kind stamp).2) (F) n2 nt2 np2 → Q ((o_weight (A 288) n kind stamp).1) S2) : PI x (d + 3) M_X8_weight [.ref cc, .int kind, .int stamp] S Q := by
  have hC := hI.1
  have hMF := hI.2.1
  have hS := hC.wl
  have hW := hI.2.2.1.1
  have hX := hI.2.2.1.2.1
  have hMI := hI.2.2.1.2.2.1
  have hV := hI.2.2.1.2.2.2
  have hn := hMI.1.1
  have hn10 := hMI.1.2
  have ht := hMI.2.1.1
  have ht14 := hMI.2.1.2
  have hp := hMI.2.2.1.1
  have hp20 := hMI.2.2.1.2
  refine PM_of (by decide +kernel) (Nat.le_of_ble_eq_true rfl) ?_
  show V x (d + 3) M_X8_weight (qi Q) (0, 0) 0 [(0, .ref cc), (1, .int kind), (2, .int stamp)] [] S
  refine V_iln (pc := 0) dX8_weight_0 rfl rfl ?_
  refine V_cSi0 (pc := 1) (jc_X8_52 dX8_weight_1 rfl) rfl rfl (Nat.le_of_ble_eq_true rfl) ?_
  refine c_isKind (fun a1 a2 => ?_) (fun a0 => ?_)
  · refine V_eq (pc := 4) (t := 18) dX8_weight_4 (by decide) (fun h => absurd h (by decide)) (fun _ => ?_)
    refine V_iln (pc := 7) dX8_weight_7 rfl rfl ?_
    refine V_iconst (pc := 8) (v := 1) dX8_weight_8 (by decide) ?_
    refine V_sipush (pc := 9) (v := 999) dX8_weight_9 (by decide) ?_
    refine V_cSi0 (pc := 12) (jc_X8_56 dX8_weight_12 rfl) rfl rfl (Nat.le_of_ble_eq_true rfl) ?_
    refine c_within (1) (999) (by decide) (by decide) (fun b1 b2 => ?_) (fun b0 => ?_)
    · refine V_ne (pc := 15) (t := 21) dX8_weight_15 (by decide) (fun _ => ?_) (fun h => absurd h (by decide))
      refine V_aln (pc := 21) dX8_weight_21 rfl rfl ?_
      refine V_gr (pc := 22) 8 0 256 dX8_weight_22 (FL_X8_10 rfl) rfl rfl hC.1 hC.rl ?_
      refine V_cVi0 (pc := 25) (jc_X8_61 dX8_weight_25 rfl) rfl rfl (Nat.le_of_ble_eq_true rfl) (hS.k 0 (by decide) rfl) ?_
      refine w_hasRoom hS hW hn hn10 (fun r1 => ?_) (fun r0 => ?_)
      · refine V_ne (pc := 28) (t := 34) dX8_weight_28 (by decide) (fun _ => ?_) (fun h => absurd h (by decide))
        refine V_aln (pc := 34) dX8_weight_34 rfl rfl ?_
        refine V_gr (pc := 35) 8 0 256 dX8_weight_35 (FL_X8_10 rfl) rfl rfl hC.1 hC.rl ?_
        refine V_iln (pc := 38) dX8_weight_38 rfl rfl ?_
        refine V_iln (pc := 39) dX8_weight_39 rfl rfl ?_
        refine V_cVi0 (pc := 40) (jc_X8_66 dX8_weight_40 rfl) rfl rfl (Nat.le_of_ble_eq_true rfl) (hS.k 0 (by decide) rfl) ?_
        refine w_addWeight hS hW hn hn10 r1 (fun S2 f2 W2 => ?_)
        refine V_iret (pc := 43) dX8_weight_43 rfl rfl ?_
        obtain ⟨k5, h5, ek⟩ := int_n (v := kind) (N := 5) a1 a2 (by decide)
        obtain ⟨s9, h9, es⟩ := int_n (v := stamp) (N := 999) (by omega) b2 (by decide)
        subst ek; subst es
        have ts := nI_toInt (n := s9) (by omega)
        have e : o_weight (A 288) n (nI k5) (nI s9) = (nI n, sCome (A 288) n (nI k5) (nI s9)) := by unfold o_weight; rw [if_pos (by omega), if_neg (by omega)]
        rw [e] at h
        exact h S2 _ _ _ (hI.live f2 W2 (sCome_tl _ r1 _ _) (hMI.come r1 _ _) (hV.come r1 h5 (by omega) h9))
      · refine V_ne (pc := 28) (t := 34) dX8_weight_28 (by decide) (fun h => absurd h (by decide)) (fun _ => ?_)
        refine V_ldc (pc := 31) dX8_weight_31 (KC_X8_65 rfl) ?_
        refine V_iret (pc := 33) dX8_weight_33 rfl rfl ?_
        have e : o_weight (A 288) n kind stamp = (-1000000003, A 288) := by unfold o_weight; rw [if_pos (by omega), if_pos (by omega)]
        rw [e] at h
        exact h S _ _ _ (NX.rfu hI)
    · refine V_ne (pc := 15) (t := 21) dX8_weight_15 (by decide) (fun h => absurd h (by decide)) (fun _ => ?_)
      refine V_ldc (pc := 18) dX8_weight_18 (KC_X8_60 rfl) ?_
      refine V_iret (pc := 20) dX8_weight_20 rfl rfl ?_
      have e : o_weight (A 288) n kind stamp = (-1000000001, A 288) := by unfold o_weight; rw [if_neg (by omega)]
      rw [e] at h
      exact h S _ _ _ (NX.rfu hI)
  · refine V_eq (pc := 4) (t := 18) dX8_weight_4 (by decide) (fun _ => ?_) (fun h => absurd h (by decide))
    refine V_ldc (pc := 18) dX8_weight_18 (KC_X8_60 rfl) ?_
    refine V_iret (pc := 20) dX8_weight_20 rfl rfl ?_
    have e : o_weight (A 288) n kind stamp = (-1000000001, A 288) := by unfold o_weight; rw [if_neg (by omega)]
    rw [e] at h
    exact h S _ _ _ (NX.rfu hI)
set_option maxRecDepth 100000 in
set_option maxHeartbeats 1000000 in
theorem C_told {x : pX} {d : Nat} {S : pS} {Q : Int32 → pS → Prop} {cc m : Nat} {lv im tr ct as : Nat → Nat} {A : Nat → Nat → Int32} {F : Nat → Int32} {n nt np : Nat} (hI : IV S cc m lv im tr ct as A F n nt np) {w what : Int32} (h : ∀ S2 n2 nt2 np2, NX S S2 cc m lv im tr ct as (A) (F) n2 nt2 np2 → Q (o_told (A 288) n nt w what) S2) : PI x (d + 6) M_X8_told [.ref cc, .int w, .int what] S Q := by
  have hC := hI.1
  have hMF := hI.2.1
  have hS := hC.wl
  have hW := hI.2.2.1.1
  have hX := hI.2.2.1.2.1
  have hMI := hI.2.2.1.2.2.1
  have hV := hI.2.2.1.2.2.2
  have hn := hMI.1.1
  have hn10 := hMI.1.2
  have ht := hMI.2.1.1
  have ht14 := hMI.2.1.2
  have hp := hMI.2.2.1.1
  have hp20 := hMI.2.2.1.2
  refine PM_of (by decide +kernel) (Nat.le_of_ble_eq_true rfl) ?_
  show V x (d + 6) M_X8_told (qi Q) (0, 0) 0 [(0, .ref cc), (1, .int w), (2, .int what)] [] S
  refine V_aln (pc := 0) dX8_told_0 rfl rfl ?_
  refine V_gr (pc := 1) 8 0 256 dX8_told_1 (FL_X8_10 rfl) rfl rfl hC.1 hC.rl ?_
  refine V_iln (pc := 4) dX8_told_4 rfl rfl ?_
  refine V_cVr0 (pc := 5) (jc_X8_70 dX8_told_5 rfl) rfl rfl (Nat.le_of_ble_eq_true rfl) (hS.k 0 (by decide) rfl) ?_
  refine w_weightAt hS hW hn hn10 (fun i hi ei ti ci => ?_) (fun n0 => ?_)
  · subst ei
    refine V_asn (pc := 8) (ls' := [(0, .ref cc), (1, .int (nI i)), (2, .int what), (3, .ref ((lv (10 + i))))]) dX8_told_8 rfl (by decide) rfl ?_
    refine V_aln (pc := 9) dX8_told_9 rfl rfl ?_
    refine V_ifnonnull (pc := 10) (t := 16) dX8_told_10 (by decide) ?_
    refine V_iln (pc := 16) dX8_told_16 rfl rfl ?_
    refine V_tab (pc := 17) (t := 103) [60, 65, 70, 75, 80, 89, 98] dX8_told_17 (by decide) (by decide) (by decide) (fun i17 q17 hq17 he17 => ?_) (fun ho17 => ?_)
    · match i17, hq17, he17 with
      | 0, hq, he => 
        cases hq
        have e17 : what = (0 : Int32) := Int32.toInt_inj.mp (by rw [he]; decide)
        refine V_aln (pc := 60) dX8_told_60 rfl rfl ?_
        refine V_gie (pc := 61) 6 0 192 dX8_told_61 (FL_X8_74 rfl) rfl rfl (hS.w (by omega)) (hW.1 192 (10 + i) (14 + 4 * i + 0) (by unfold cI; omega)) ?_
        refine V_iret (pc := 64) dX8_told_64 rfl rfl ?_
        subst e17
        have e : o_told (A 288) n nt (nI i) 0 = A 288 (14 + 4 * i + 0) := by unfold o_told; rw [if_pos (by omega), if_pos (by decide), ci]; rfl
        rw [e] at h
        exact h S _ _ _ (NX.rf hI)
      | 1, hq, he => 
        cases hq
        have e17 : what = (1 : Int32) := Int32.toInt_inj.mp (by rw [he]; decide)
        refine V_aln (pc := 65) dX8_told_65 rfl rfl ?_
        refine V_gie (pc := 66) 6 1 193 dX8_told_66 (FL_X8_80 rfl) rfl rfl (hS.w (by omega)) (hW.1 193 (10 + i) (14 + 4 * i + 1) (by unfold cI; omega)) ?_
        refine V_iret (pc := 69) dX8_told_69 rfl rfl ?_
        subst e17
        have e : o_told (A 288) n nt (nI i) 1 = A 288 (14 + 4 * i + 1) := by unfold o_told; rw [if_pos (by omega), if_pos (by decide), ci]; rfl
        rw [e] at h
        exact h S _ _ _ (NX.rf hI)
      | 2, hq, he => 
        cases hq
        have e17 : what = (2 : Int32) := Int32.toInt_inj.mp (by rw [he]; decide)
        refine V_aln (pc := 70) dX8_told_70 rfl rfl ?_
        refine V_gie (pc := 71) 6 2 194 dX8_told_71 (FL_X8_83 rfl) rfl rfl (hS.w (by omega)) (hW.1 194 (10 + i) (14 + 4 * i + 2) (by unfold cI; omega)) ?_
        refine V_iret (pc := 74) dX8_told_74 rfl rfl ?_
        subst e17
        have e : o_told (A 288) n nt (nI i) 2 = A 288 (14 + 4 * i + 2) := by unfold o_told; rw [if_pos (by omega), if_pos (by decide), ci]; rfl
        rw [e] at h
        exact h S _ _ _ (NX.rf hI)
      | 3, hq, he => 
        cases hq
        have e17 : what = (3 : Int32) := Int32.toInt_inj.mp (by rw [he]; decide)
        refine V_aln (pc := 75) dX8_told_75 rfl rfl ?_
        refine V_gie (pc := 76) 6 3 195 dX8_told_76 (FL_X8_86 rfl) rfl rfl (hS.w (by omega)) (hW.1 195 (10 + i) (14 + 4 * i + 3) (by unfold cI; omega)) ?_
        refine V_iret (pc := 79) dX8_told_79 rfl rfl ?_
        subst e17
        have e : o_told (A 288) n nt (nI i) 3 = A 288 (14 + 4 * i + 3) := by unfold o_told; rw [if_pos (by omega), if_pos (by decide), ci]; rfl
        rw [e] at h
        exact h S _ _ _ (NX.rf hI)
      | 4, hq, he => 
        cases hq
        have e17 : what = (4 : Int32) := Int32.toInt_inj.mp (by rw [he]; decide)
        refine V_aln (pc := 80) dX8_told_80 rfl rfl ?_
        refine V_gr (pc := 81) 8 0 256 dX8_told_81 (FL_X8_10 rfl) rfl rfl hC.1 hC.rl ?_
        refine V_aln (pc := 84) dX8_told_84 rfl rfl ?_
        refine V_cVi0 (pc := 85) (jc_X8_89 dX8_told_85 rfl) rfl rfl (Nat.le_of_ble_eq_true rfl) (hS.k 0 (by decide) rfl) ?_
        refine w_lossAt hS hW ht ht14 hX (by omega) (fun S2 z2 => ?_)
        refine V_iret (pc := 88) dX8_told_88 rfl rfl ?_
        subst e17
        have e : o_told (A 288) n nt (nI i) 4 = floss (A 288) nt i (A 288 (14 + 4 * i + 2)) (A 288 (14 + 4 * i + 3)) := by unfold o_told; rw [if_pos (by omega), if_neg (by decide), if_pos rfl, ci]
        rw [e] at h
        exact h S2 _ _ _ (hI.z z2)
      | 5, hq, he => 
        cases hq
        have e17 : what = (5 : Int32) := Int32.toInt_inj.mp (by rw [he]; decide)
        refine V_aln (pc := 89) dX8_told_89 rfl rfl ?_
        refine V_gr (pc := 90) 8 0 256 dX8_told_90 (FL_X8_10 rfl) rfl rfl hC.1 hC.rl ?_
        refine V_aln (pc := 93) dX8_told_93 rfl rfl ?_
        refine V_cVi0 (pc := 94) (jc_X8_93 dX8_told_94 rfl) rfl rfl (Nat.le_of_ble_eq_true rfl) (hS.k 0 (by decide) rfl) ?_
        obtain ⟨G, hG, eG⟩ := (hV.1 i hi).2.2
        refine w_fallLossAt hS hW ht ht14 hX (by omega) hG eG (fun S2 z2 => ?_)
        refine V_iret (pc := 97) dX8_told_97 rfl rfl ?_
        subst e17
        have e : o_told (A 288) n nt (nI i) 5 = ffall (A 288) nt i := by unfold o_told; rw [if_pos (by omega), if_neg (by decide), if_neg (by decide), if_pos rfl, ci]
        rw [e] at h
        exact h S2 _ _ _ (hI.z z2)
      | 6, hq, he => 
        cases hq
        have e17 : what = (6 : Int32) := Int32.toInt_inj.mp (by rw [he]; decide)
        refine V_aln (pc := 98) dX8_told_98 rfl rfl ?_
        refine V_cVi0 (pc := 99) (jc_X8_96 dX8_told_99 rfl) rfl rfl (Nat.le_of_ble_eq_true rfl) (hS.w (by omega)) ?_
        refine c_worth (hS.w (by omega)) ?_
        rw [hW.1 192 (10 + i) (14 + 4 * i + 0) (by unfold cI; omega), hW.1 194 (10 + i) (14 + 4 * i + 2) (by unfold cI; omega), hW.1 195 (10 + i) (14 + 4 * i + 3) (by unfold cI; omega)]
        refine V_iret (pc := 102) dX8_told_102 rfl rfl ?_
        subst e17
        have e : o_told (A 288) n nt (nI i) 6 = fworth (A 288 (14 + 4 * i + 0)) (A 288 (14 + 4 * i + 2)) (A 288 (14 + 4 * i + 3)) := by unfold o_told; rw [if_pos (by omega), if_neg (by decide), if_neg (by decide), if_neg (by decide), if_pos rfl, ci]
        rw [e] at h
        exact h S _ _ _ (NX.rf hI)
      | n + 7, hq, _ => simp at hq
    · have ho17 : (what).toInt < 0 ∨ 7 ≤ (what).toInt := by have q := ho17; simp only [List.length_cons, List.length_nil] at q; omega
      refine V_ldc (pc := 103) dX8_told_103 (KC_X8_60 rfl) ?_
      refine V_iret (pc := 105) dX8_told_105 rfl rfl ?_
      have k4 : (4 : Int32).toInt = 4 := rfl
      have k5 : (5 : Int32).toInt = 5 := rfl
      have k6 : (6 : Int32).toInt = 6 := rfl
      have e : o_told (A 288) n nt (nI i) what = -1000000001 := by unfold o_told; rw [if_pos (by omega), if_neg (by omega), if_neg (fun q => by rw [q] at ho17; omega), if_neg (fun q => by rw [q] at ho17; omega), if_neg (fun q => by rw [q] at ho17; omega)]
      rw [e] at h
      exact h S _ _ _ (NX.rf hI)
  · refine V_asnN (pc := 8) (ls' := [(0, .ref cc), (1, .int w), (2, .int what), (3, .null)]) dX8_told_8 rfl (by decide) rfl ?_
    refine V_alNn (pc := 9) dX8_told_9 rfl rfl ?_
    refine V_ifnonnullN (pc := 10) (t := 16) dX8_told_10 (by decide) ?_
    refine V_ldc (pc := 13) dX8_told_13 (KC_X8_60 rfl) ?_
    refine V_iret (pc := 15) dX8_told_15 rfl rfl ?_
    have e : o_told (A 288) n nt w what = -1000000001 := by unfold o_told; rw [if_neg n0]
    rw [e] at h
    exact h S _ _ _ (NX.rf hI)
set_option maxRecDepth 100000 in
set_option maxHeartbeats 1000000 in
theorem C_as {x : pX} {d : Nat} {S : pS} {Q : Int32 → pS → Prop} {cc m : Nat} {lv im tr ct as : Nat → Nat} {A : Nat → Nat → Int32} {F : Nat → Int32} {n nt np : Nat} (hI : IV S cc m lv im tr ct as A F n nt np) (hx : XA x) {w k : Int32} (h : ∀ S2 n2 nt2 np2, NX S S2 cc m lv im tr ct as (A) (F) n2 nt2 np2 → Q (o_as (A 288) n w k) S2) : PI x (d + 3) M_X8_as [.ref cc, .int w, .int k] S Q := by
  have hC := hI.1
  have hMF := hI.2.1
  have hS := hC.wl
  have hW := hI.2.2.1.1
  have hX := hI.2.2.1.2.1
  have hMI := hI.2.2.1.2.2.1
  have hV := hI.2.2.1.2.2.2
  have hn := hMI.1.1
  have hn10 := hMI.1.2
  have ht := hMI.2.1.1
  have ht14 := hMI.2.1.2
  have hp := hMI.2.2.1.1
  have hp20 := hMI.2.2.1.2
  refine PM_of (by decide +kernel) (Nat.le_of_ble_eq_true rfl) ?_
  show V x (d + 3) M_X8_as (qi Q) (0, 0) 0 [(0, .ref cc), (1, .int w), (2, .int k)] [] S
  refine V_aln (pc := 0) dX8_as_0 rfl rfl ?_
  refine V_gr (pc := 1) 8 0 256 dX8_as_1 (FL_X8_10 rfl) rfl rfl hC.1 hC.rl ?_
  refine V_iln (pc := 4) dX8_as_4 rfl rfl ?_
  refine V_cVr0 (pc := 5) (jc_X8_70 dX8_as_5 rfl) rfl rfl (Nat.le_of_ble_eq_true rfl) (hS.k 0 (by decide) rfl) ?_
  refine w_weightAt hS hW hn hn10 (fun i hi ei ti ci => ?_) (fun n0 => ?_)
  · subst ei
    refine V_asn (pc := 8) (ls' := [(0, .ref cc), (1, .int (nI i)), (2, .int k), (3, .ref ((lv (10 + i))))]) dX8_as_8 rfl (by decide) rfl ?_
    refine V_aln (pc := 9) dX8_as_9 rfl rfl ?_
    refine V_ifnull (pc := 10) (t := 20) dX8_as_10 (by decide) ?_
    refine V_iln (pc := 13) dX8_as_13 rfl rfl ?_
    refine V_cSi0 (pc := 14) (jc_X8_52 dX8_as_14 rfl) rfl rfl (Nat.le_of_ble_eq_true rfl) ?_
    refine c_isKind (fun a1 a2 => ?_) (fun a0 => ?_)
    · refine V_ne (pc := 17) (t := 23) dX8_as_17 (by decide) (fun _ => ?_) (fun h => absurd h (by decide))
      refine V_aln (pc := 23) dX8_as_23 rfl rfl ?_
      refine V_iln (pc := 24) dX8_as_24 rfl rfl ?_
      refine V_cVi0 (pc := 25) (jc_X8_100 dX8_as_25 rfl) rfl rfl (Nat.le_of_ble_eq_true rfl) (hS.w (by omega)) ?_
      obtain ⟨kd, hkd, ekd⟩ := (hV.1 i hi).1
      refine c_isOf hx (hS.w (by omega)) hkd (by rw [hW.1 192 (10 + i) (14 + 4 * i + 0) (by unfold cI; omega)]; exact ekd) (fun y1 => ?_) (fun y0 => ?_)
      · refine V_eq (pc := 28) (t := 38) dX8_as_28 (by decide) (fun h => absurd h (by decide)) (fun _ => ?_)
        refine V_aln (pc := 31) dX8_as_31 rfl rfl ?_
        refine V_gie (pc := 32) 6 2 194 dX8_as_32 (FL_X8_83 rfl) rfl rfl (hS.w (by omega)) (hW.1 194 (10 + i) (14 + 4 * i + 2) (by unfold cI; omega)) ?_
        refine V_goto (pc := 35) (t := 40) dX8_as_35 (by decide) ?_
        refine V_iret (pc := 40) dX8_as_40 rfl rfl ?_
        have e : o_as (A 288) n (nI i) k = if fisOf (nI kd) k then A 288 (14 + 4 * i + 2) else -1000000012 := by unfold o_as; rw [if_pos (by omega), ci, ekd]
        rw [e] at h
        first
          | (rw [if_pos y1] at h; exact h S _ _ _ (NX.rf hI))
          | (rw [if_neg y0] at h; exact h S _ _ _ (NX.rf hI))
      · refine V_eq (pc := 28) (t := 38) dX8_as_28 (by decide) (fun _ => ?_) (fun h => absurd h (by decide))
        refine V_ldc (pc := 38) dX8_as_38 (KC_X8_103 rfl) ?_
        refine V_iret (pc := 40) dX8_as_40 rfl rfl ?_
        have e : o_as (A 288) n (nI i) k = if fisOf (nI kd) k then A 288 (14 + 4 * i + 2) else -1000000012 := by unfold o_as; rw [if_pos (by omega), ci, ekd]
        rw [e] at h
        first
          | (rw [if_pos y1] at h; exact h S _ _ _ (NX.rf hI))
          | (rw [if_neg y0] at h; exact h S _ _ _ (NX.rf hI))
    · refine V_ne (pc := 17) (t := 23) dX8_as_17 (by decide) (fun h => absurd h (by decide)) (fun _ => ?_)
      refine V_ldc (pc := 20) dX8_as_20 (KC_X8_60 rfl) ?_
      refine V_iret (pc := 22) dX8_as_22 rfl rfl ?_
      unfold o_as at h
      rw [if_neg (by omega)] at h
      exact h S _ _ _ (NX.rf hI)
  · refine V_asnN (pc := 8) (ls' := [(0, .ref cc), (1, .int w), (2, .int k), (3, .null)]) dX8_as_8 rfl (by decide) rfl ?_
    refine V_alNn (pc := 9) dX8_as_9 rfl rfl ?_
    refine V_ifnullN (pc := 10) (t := 20) dX8_as_10 (by decide) ?_
    refine V_ldc (pc := 20) dX8_as_20 (KC_X8_60 rfl) ?_
    refine V_iret (pc := 22) dX8_as_22 rfl rfl ?_
    unfold o_as at h
    rw [if_neg (by omega)] at h
    exact h S _ _ _ (NX.rf hI)
set_option maxRecDepth 100000 in
set_option maxHeartbeats 1000000 in
theorem C_turns {x : pX} {d : Nat} {S : pS} {Q : Int32 → pS → Prop} {cc m : Nat} {lv im tr ct as : Nat → Nat} {A : Nat → Nat → Int32} {F : Nat → Int32} {n nt np : Nat} (hI : IV S cc m lv im tr ct as A F n nt np) {w k : Int32} (h : ∀ S2 n2 nt2 np2, NX S S2 cc m lv im tr ct as (uA A (o_turns (A 288) n w k).2) (F) n2 nt2 np2 → Q ((o_turns (A 288) n w k).1) S2) : PI x (d + 3) M_X8_turns [.ref cc, .int w, .int k] S Q := by
  have hC := hI.1
  have hMF := hI.2.1
  have hS := hC.wl
  have hW := hI.2.2.1.1
  have hX := hI.2.2.1.2.1
  have hMI := hI.2.2.1.2.2.1
  have hV := hI.2.2.1.2.2.2
  have hn := hMI.1.1
  have hn10 := hMI.1.2
  have ht := hMI.2.1.1
  have ht14 := hMI.2.1.2
  have hp := hMI.2.2.1.1
  have hp20 := hMI.2.2.1.2
  refine PM_of (by decide +kernel) (Nat.le_of_ble_eq_true rfl) ?_
  show V x (d + 3) M_X8_turns (qi Q) (0, 0) 0 [(0, .ref cc), (1, .int w), (2, .int k)] [] S
  refine V_aln (pc := 0) dX8_turns_0 rfl rfl ?_
  refine V_gr (pc := 1) 8 0 256 dX8_turns_1 (FL_X8_10 rfl) rfl rfl hC.1 hC.rl ?_
  refine V_iln (pc := 4) dX8_turns_4 rfl rfl ?_
  refine V_cVr0 (pc := 5) (jc_X8_70 dX8_turns_5 rfl) rfl rfl (Nat.le_of_ble_eq_true rfl) (hS.k 0 (by decide) rfl) ?_
  refine w_weightAt hS hW hn hn10 (fun i hi ei ti ci => ?_) (fun n0 => ?_)
  · subst ei
    refine V_asn (pc := 8) (ls' := [(0, .ref cc), (1, .int (nI i)), (2, .int k), (3, .ref ((lv (10 + i))))]) dX8_turns_8 rfl (by decide) rfl ?_
    refine V_aln (pc := 9) dX8_turns_9 rfl rfl ?_
    refine V_ifnull (pc := 10) (t := 20) dX8_turns_10 (by decide) ?_
    refine V_iln (pc := 13) dX8_turns_13 rfl rfl ?_
    refine V_cSi0 (pc := 14) (jc_X8_52 dX8_turns_14 rfl) rfl rfl (Nat.le_of_ble_eq_true rfl) ?_
    refine c_isKind (fun a1 a2 => ?_) (fun a0 => ?_)
    · obtain ⟨q, hq, eq⟩ := int_n (v := k) (N := 5) a1 a2 (by decide)
      subst eq
      have tq : (nI q).toInt = q := nI_toInt (by omega)
      refine V_ne (pc := 17) (t := 23) dX8_turns_17 (by decide) (fun _ => ?_) (fun h => absurd h (by decide))
      refine V_aln (pc := 23) dX8_turns_23 rfl rfl ?_
      refine V_gie (pc := 24) 6 0 192 dX8_turns_24 (FL_X8_74 rfl) rfl rfl (hS.w (by omega)) (hW.1 192 (10 + i) (14 + 4 * i + 0) (by unfold cI; omega)) ?_
      refine V_is (pc := 27) (fun y => [(0, .ref cc), (1, .int (nI i)), (2, .int (nI q)), (3, .ref ((lv (10 + i)))), (4, .int y)]) dX8_turns_27 (by decide) (fun _ => rfl) (fun y27 ey27 => ?_)
      refine V_aln (pc := 29) dX8_turns_29 rfl rfl ?_
      refine V_iln (pc := 30) dX8_turns_30 rfl rfl ?_
      refine V_pi (pc := 31) 6 0 192 dX8_turns_31 (FL_X8_74 rfl) rfl rfl rfl (hS.w (by omega)) ?_
      have hW31 := hW.I hS (f := 192) (i := (10 + i)) (k := (14 + 4 * i + 0)) (by unfold cI; omega) (nI q)
      have hF31 := (wfr.rf (ad := lv) (P := S)).I (i := (10 + i)) (by unfold wIx; omega) (by omega) (by omega) 192 (nI q)
      refine V_il (pc := 34) dX8_turns_34 rfl ?_
      refine V_iret (pc := 36) dX8_turns_36 rfl rfl ?_
      rw [ey27]
      have e : o_turns (A 288) n (nI i) (nI q) = (A 288 (14 + 4 * i + 0), upd (A 288) (14 + 4 * i + 0) (nI q)) := by unfold o_turns; rw [if_pos (by omega), ci]
      rw [e] at h
      exact h _ _ _ _ (hI.live hF31 hW31 (tl.rf.up (by omega) _) (hMI.up (by omega) _) (hV.kd hq))
    · refine V_ne (pc := 17) (t := 23) dX8_turns_17 (by decide) (fun h => absurd h (by decide)) (fun _ => ?_)
      refine V_ldc (pc := 20) dX8_turns_20 (KC_X8_60 rfl) ?_
      refine V_iret (pc := 22) dX8_turns_22 rfl rfl ?_
      unfold o_turns at h
      rw [if_neg (by omega)] at h
      exact h S _ _ _ (NX.rfu hI)
  · refine V_asnN (pc := 8) (ls' := [(0, .ref cc), (1, .int w), (2, .int k), (3, .null)]) dX8_turns_8 rfl (by decide) rfl ?_
    refine V_alNn (pc := 9) dX8_turns_9 rfl rfl ?_
    refine V_ifnullN (pc := 10) (t := 20) dX8_turns_10 (by decide) ?_
    refine V_ldc (pc := 20) dX8_turns_20 (KC_X8_60 rfl) ?_
    refine V_iret (pc := 22) dX8_turns_22 rfl rfl ?_
    unfold o_turns at h
    rw [if_neg (by omega)] at h
    exact h S _ _ _ (NX.rfu hI)
set_option maxRecDepth 100000 in
set_option maxHeartbeats 1000000 in
theorem C_file {x : pX} {d : Nat} {S : pS} {Q : Int32 → pS → Prop} {cc m : Nat} {lv im tr ct as : Nat → Nat} {A : Nat → Nat → Int32} {F : Nat → Int32} {n nt np : Nat} (hI : IV S cc m lv im tr ct as A F n nt np) {w v : Int32} (h : ∀ S2 n2 nt2 np2, NX S S2 cc m lv im tr ct as (uA A (o_file (A 288) n w v).2) (F) n2 nt2 np2 → Q ((o_file (A 288) n w v).1) S2) : PI x (d + 2) M_X8_file [.ref cc, .int w, .int v] S Q := by
  have hC := hI.1
  have hMF := hI.2.1
  have hS := hC.wl
  have hW := hI.2.2.1.1
  have hX := hI.2.2.1.2.1
  have hMI := hI.2.2.1.2.2.1
  have hV := hI.2.2.1.2.2.2
  have hn := hMI.1.1
  have hn10 := hMI.1.2
  have ht := hMI.2.1.1
  have ht14 := hMI.2.1.2
  have hp := hMI.2.2.1.1
  have hp20 := hMI.2.2.1.2
  refine PM_of (by decide +kernel) (Nat.le_of_ble_eq_true rfl) ?_
  show V x (d + 2) M_X8_file (qi Q) (0, 0) 0 [(0, .ref cc), (1, .int w), (2, .int v)] [] S
  refine V_aln (pc := 0) dX8_file_0 rfl rfl ?_
  refine V_gr (pc := 1) 8 0 256 dX8_file_1 (FL_X8_10 rfl) rfl rfl hC.1 hC.rl ?_
  refine V_iln (pc := 4) dX8_file_4 rfl rfl ?_
  refine V_cVr0 (pc := 5) (jc_X8_70 dX8_file_5 rfl) rfl rfl (Nat.le_of_ble_eq_true rfl) (hS.k 0 (by decide) rfl) ?_
  refine w_weightAt hS hW hn hn10 (fun i hi ei ti ci => ?_) (fun n0 => ?_)
  · subst ei
    refine V_asn (pc := 8) (ls' := [(0, .ref cc), (1, .int (nI i)), (2, .int v), (3, .ref ((lv (10 + i))))]) dX8_file_8 rfl (by decide) rfl ?_
    refine V_aln (pc := 9) dX8_file_9 rfl rfl ?_
    refine V_ifnull (pc := 10) (t := 24) dX8_file_10 (by decide) ?_
    refine V_iln (pc := 13) dX8_file_13 rfl rfl ?_
    refine V_iconst (pc := 14) (v := 0) dX8_file_14 (by decide) ?_
    refine V_sipush (pc := 15) (v := 999) dX8_file_15 (by decide) ?_
    refine V_cSi0 (pc := 18) (jc_X8_56 dX8_file_18 rfl) rfl rfl (Nat.le_of_ble_eq_true rfl) ?_
    refine c_within (0) (999) (by decide) (by decide) (fun a1 a2 => ?_) (fun a0 => ?_)
    · obtain ⟨q, hq, eq⟩ := int_n (v := v) (N := 999) (by omega) a2 (by decide)
      subst eq
      have tq : (nI q).toInt = q := nI_toInt (by omega)
      have cq : (nI q).toNatClampNeg = q := nI_clamp (by omega)
      refine V_ne (pc := 21) (t := 27) dX8_file_21 (by decide) (fun _ => ?_) (fun h => absurd h (by decide))
      refine V_aln (pc := 27) dX8_file_27 rfl rfl ?_
      refine V_gie (pc := 28) 6 2 194 dX8_file_28 (FL_X8_83 rfl) rfl rfl (hS.w (by omega)) (hW.1 194 (10 + i) (14 + 4 * i + 2) (by unfold cI; omega)) ?_
      refine V_is (pc := 31) (fun y => [(0, .ref cc), (1, .int (nI i)), (2, .int (nI q)), (3, .ref ((lv (10 + i)))), (4, .int y)]) dX8_file_31 (by decide) (fun _ => rfl) (fun y31 ey31 => ?_)
      refine V_aln (pc := 33) dX8_file_33 rfl rfl ?_
      refine V_iln (pc := 34) dX8_file_34 rfl rfl ?_
      refine V_pi (pc := 35) 6 2 194 dX8_file_35 (FL_X8_83 rfl) rfl rfl rfl (hS.w (by omega)) ?_
      have hW35 := hW.I hS (f := 194) (i := (10 + i)) (k := (14 + 4 * i + 2)) (by unfold cI; omega) (nI q)
      have hF35 := (wfr.rf (ad := lv) (P := S)).I (i := (10 + i)) (by unfold wIx; omega) (by omega) (by omega) 194 (nI q)
      refine V_il (pc := 38) dX8_file_38 rfl ?_
      refine V_iret (pc := 40) dX8_file_40 rfl rfl ?_
      rw [ey31]
      have e : o_file (A 288) n (nI i) (nI q) = (A 288 (14 + 4 * i + 2), upd (A 288) (14 + 4 * i + 2) (nI q)) := by unfold o_file; rw [if_pos (by omega), ci]
      rw [e] at h
      exact h _ _ _ _ (hI.live hF35 hW35 (tl.rf.up (by omega) _) (hMI.up (by omega) _) (hV.g2 hn10 (by omega) hq))
    · refine V_ne (pc := 21) (t := 27) dX8_file_21 (by decide) (fun h => absurd h (by decide)) (fun _ => ?_)
      refine V_ldc (pc := 24) dX8_file_24 (KC_X8_60 rfl) ?_
      refine V_iret (pc := 26) dX8_file_26 rfl rfl ?_
      unfold o_file at h
      rw [if_neg (by omega)] at h
      exact h S _ _ _ (NX.rfu hI)
  · refine V_asnN (pc := 8) (ls' := [(0, .ref cc), (1, .int w), (2, .int v), (3, .null)]) dX8_file_8 rfl (by decide) rfl ?_
    refine V_alNn (pc := 9) dX8_file_9 rfl rfl ?_
    refine V_ifnullN (pc := 10) (t := 24) dX8_file_10 (by decide) ?_
    refine V_ldc (pc := 24) dX8_file_24 (KC_X8_60 rfl) ?_
    refine V_iret (pc := 26) dX8_file_26 rfl rfl ?_
    unfold o_file at h
    rw [if_neg (by omega)] at h
    exact h S _ _ _ (NX.rfu hI)
set_option maxRecDepth 100000 in
set_option maxHeartbeats 1000000 in
theorem C_arm {x : pX} {d : Nat} {S : pS} {Q : Int32 → pS → Prop} {cc m : Nat} {lv im tr ct as : Nat → Nat} {A : Nat → Nat → Int32} {F : Nat → Int32} {n nt np : Nat} (hI : IV S cc m lv im tr ct as A F n nt np) {b s v : Int32} (h : ∀ S2 n2 nt2 np2, NX S S2 cc m lv im tr ct as (uA A (o_arm (A 288) b s v).2) (F) n2 nt2 np2 → Q ((o_arm (A 288) b s v).1) S2) : PI x (d + 2) M_X8_arm [.ref cc, .int b, .int s, .int v] S Q := by
  have hC := hI.1
  have hMF := hI.2.1
  have hS := hC.wl
  have hW := hI.2.2.1.1
  have hX := hI.2.2.1.2.1
  have hMI := hI.2.2.1.2.2.1
  have hV := hI.2.2.1.2.2.2
  have hn := hMI.1.1
  have hn10 := hMI.1.2
  have ht := hMI.2.1.1
  have ht14 := hMI.2.1.2
  have hp := hMI.2.2.1.1
  have hp20 := hMI.2.2.1.2
  refine PM_of (by decide +kernel) (Nat.le_of_ble_eq_true rfl) ?_
  show V x (d + 2) M_X8_arm (qi Q) (0, 0) 0 [(0, .ref cc), (1, .int b), (2, .int s), (3, .int v)] [] S
  refine V_iln (pc := 0) dX8_arm_0 rfl rfl ?_
  refine V_iconst (pc := 1) (v := 0) dX8_arm_1 (by decide) ?_
  refine V_iconst (pc := 2) (v := 3) dX8_arm_2 (by decide) ?_
  refine V_cSi0 (pc := 3) (jc_X8_56 dX8_arm_3 rfl) rfl rfl (Nat.le_of_ble_eq_true rfl) ?_
  refine c_within (0) (3) (by decide) (by decide) (fun a1 a2 => ?_) (fun a0 => ?_)
  · obtain ⟨bn, hbn, ebn⟩ := int_n (v := b) (N := 3) (by omega) a2 (by decide)
    subst ebn
    have tbn : (nI bn).toInt = bn := nI_toInt (by omega)
    have cbn : (nI bn).toNatClampNeg = bn := nI_clamp (by omega)
    refine V_eq (pc := 6) (t := 29) dX8_arm_6 (by decide) (fun h => absurd h (by decide)) (fun _ => ?_)
    refine V_iln (pc := 9) dX8_arm_9 rfl rfl ?_
    refine V_iconst (pc := 10) (v := 0) dX8_arm_10 (by decide) ?_
    refine V_iconst (pc := 11) (v := 1) dX8_arm_11 (by decide) ?_
    refine V_cSi0 (pc := 12) (jc_X8_56 dX8_arm_12 rfl) rfl rfl (Nat.le_of_ble_eq_true rfl) ?_
    refine c_within (0) (1) (by decide) (by decide) (fun e1 e2 => ?_) (fun e0 => ?_)
    · obtain ⟨sn, hsn, esn⟩ := int_n (v := s) (N := 1) (by omega) e2 (by decide)
      subst esn
      have tsn : (nI sn).toInt = sn := nI_toInt (by omega)
      have csn : (nI sn).toNatClampNeg = sn := nI_clamp (by omega)
      refine V_eq (pc := 15) (t := 29) dX8_arm_15 (by decide) (fun h => absurd h (by decide)) (fun _ => ?_)
      refine V_iln (pc := 18) dX8_arm_18 rfl rfl ?_
      refine V_bipush (pc := 19) (v := 90) dX8_arm_19 (by decide) ?_
      refine V_bipush (pc := 21) (v := 110) dX8_arm_21 (by decide) ?_
      refine V_cSi0 (pc := 23) (jc_X8_56 dX8_arm_23 rfl) rfl rfl (Nat.le_of_ble_eq_true rfl) ?_
      refine c_within (90) (110) (by decide) (by decide) (fun f1 f2 => ?_) (fun f0 => ?_)
      · refine V_ne (pc := 26) (t := 32) dX8_arm_26 (by decide) (fun _ => ?_) (fun h => absurd h (by decide))
        refine V_aln (pc := 32) dX8_arm_32 rfl rfl ?_
        refine V_gr (pc := 33) 8 0 256 dX8_arm_33 (FL_X8_10 rfl) rfl rfl hC.1 hC.rl ?_
        refine V_iln (pc := 36) dX8_arm_36 rfl rfl ?_
        refine V_iln (pc := 37) dX8_arm_37 rfl rfl ?_
        refine V_cVi0 (pc := 38) (jc_X8_104 dX8_arm_38 rfl) rfl rfl (Nat.le_of_ble_eq_true rfl) (hS.k 0 (by decide) rfl) ?_
        refine w_armAt hS hW (by omega) (by omega) ?_
        refine V_is (pc := 41) (fun y => [(0, .ref cc), (1, .int (nI bn)), (2, .int (nI sn)), (3, .int v), (4, .int y)]) dX8_arm_41 (by decide) (fun _ => rfl) (fun y41 ey41 => ?_)
        refine V_aln (pc := 43) dX8_arm_43 rfl rfl ?_
        refine V_gr (pc := 44) 8 0 256 dX8_arm_44 (FL_X8_10 rfl) rfl rfl hC.1 hC.rl ?_
        refine V_iln (pc := 47) dX8_arm_47 rfl rfl ?_
        refine V_iln (pc := 48) dX8_arm_48 rfl rfl ?_
        refine V_iln (pc := 49) dX8_arm_49 rfl rfl ?_
        refine V_cVv0 (pc := 50) (jc_X8_107 dX8_arm_50 rfl) rfl rfl (Nat.le_of_ble_eq_true rfl) (hS.k 0 (by decide) rfl) ?_
        refine w_bendArm hS hW (by omega) (by omega) (fun S2 f2 W2 => ?_)
        refine V_il (pc := 53) dX8_arm_53 rfl ?_
        refine V_iret (pc := 55) dX8_arm_55 rfl rfl ?_
        rw [ey41]
        have e : o_arm (A 288) (nI bn) (nI sn) v = (A 288 (6 + 2 * bn + sn), upd (A 288) (6 + 2 * bn + sn) v) := by unfold o_arm; rw [if_pos (by omega), cbn, csn]
        rw [e] at h
        exact h S2 _ _ _ (hI.live f2 W2 (tl.rf.up (by omega) _) (hMI.up (by omega) _) (hV.up hn10 _ (by omega) (by omega)))
      · refine V_ne (pc := 26) (t := 32) dX8_arm_26 (by decide) (fun h => absurd h (by decide)) (fun _ => ?_)
        refine V_ldc (pc := 29) dX8_arm_29 (KC_X8_60 rfl) ?_
        refine V_iret (pc := 31) dX8_arm_31 rfl rfl ?_
        unfold o_arm at h
        rw [if_neg (by omega)] at h
        exact h S _ _ _ (NX.rfu hI)
    · refine V_eq (pc := 15) (t := 29) dX8_arm_15 (by decide) (fun _ => ?_) (fun h => absurd h (by decide))
      refine V_ldc (pc := 29) dX8_arm_29 (KC_X8_60 rfl) ?_
      refine V_iret (pc := 31) dX8_arm_31 rfl rfl ?_
      unfold o_arm at h
      rw [if_neg (by omega)] at h
      exact h S _ _ _ (NX.rfu hI)
  · refine V_eq (pc := 6) (t := 29) dX8_arm_6 (by decide) (fun _ => ?_) (fun h => absurd h (by decide))
    refine V_ldc (pc := 29) dX8_arm_29 (KC_X8_60 rfl) ?_
    refine V_iret (pc := 31) dX8_arm_31 rfl rfl ?_
    unfold o_arm at h
    rw [if_neg (by omega)] at h
    exact h S _ _ _ (NX.rfu hI)
set_option maxRecDepth 100000 in
set_option maxHeartbeats 1000000 in
theorem C_seed {x : pX} {d : Nat} {S : pS} {Q : Int32 → pS → Prop} {cc m : Nat} {lv im tr ct as : Nat → Nat} {A : Nat → Nat → Int32} {F : Nat → Int32} {n nt np : Nat} (hI : IV S cc m lv im tr ct as A F n nt np) {v : Int32} (h : ∀ S2 n2 nt2 np2, NX S S2 cc m lv im tr ct as (uA A (o_seed (A 288) v).2) (F) n2 nt2 np2 → Q ((o_seed (A 288) v).1) S2) : PI x (d + 1) M_X8_seed [.ref cc, .int v] S Q := by
  have hC := hI.1
  have hMF := hI.2.1
  have hS := hC.wl
  have hW := hI.2.2.1.1
  have hX := hI.2.2.1.2.1
  have hMI := hI.2.2.1.2.2.1
  have hV := hI.2.2.1.2.2.2
  have hn := hMI.1.1
  have hn10 := hMI.1.2
  have ht := hMI.2.1.1
  have ht14 := hMI.2.1.2
  have hp := hMI.2.2.1.1
  have hp20 := hMI.2.2.1.2
  refine PM_of (by decide +kernel) (Nat.le_of_ble_eq_true rfl) ?_
  show V x (d + 1) M_X8_seed (qi Q) (0, 0) 0 [(0, .ref cc), (1, .int v)] [] S
  refine V_aln (pc := 0) dX8_seed_0 rfl rfl ?_
  refine V_gr (pc := 1) 8 0 256 dX8_seed_1 (FL_X8_10 rfl) rfl rfl hC.1 hC.rl ?_
  refine V_gie (pc := 4) 7 6 230 dX8_seed_4 (FL_X8_114 rfl) rfl rfl (hS.k 0 (by decide) rfl) (hW.1 230 0 4 (by decide)) ?_
  refine V_isn (pc := 7) (fun y => [(0, .ref cc), (1, .int v), (2, .int y)]) dX8_seed_7 rfl (by decide) (fun _ => rfl) (fun y7 ey7 => ?_)
  refine V_aln (pc := 8) dX8_seed_8 rfl rfl ?_
  refine V_gr (pc := 9) 8 0 256 dX8_seed_9 (FL_X8_10 rfl) rfl rfl hC.1 hC.rl ?_
  refine V_iln (pc := 12) dX8_seed_12 rfl rfl ?_
  refine V_pi (pc := 13) 7 6 230 dX8_seed_13 (FL_X8_114 rfl) rfl rfl rfl (hS.k 0 (by decide) rfl) ?_
  have hW13 := hW.I hS (f := 230) (i := 0) (k := 4) (by unfold cI; omega) v
  have hF13 := (wfr.rf (ad := lv) (P := S)).I (i := 0) (by unfold wIx; omega) (by omega) (by omega) 230 v
  refine V_iln (pc := 16) dX8_seed_16 rfl rfl ?_
  refine V_iret (pc := 17) dX8_seed_17 rfl rfl ?_
  rw [ey7]
  exact h _ _ _ _ (hI.live hF13 hW13 (tl.rf.up (by omega) _) (hMI.up (by omega) _) (hV.up hn10 _ (by omega) (by omega)))
theorem o_said_bad {σ : Nat → Int32} {n : Nat} {b l r : Int32} (h : ¬ (0 ≤ b.toInt ∧ b.toInt ≤ 3 ∧ (0 ≤ l.toInt ∧ l.toInt < ((2 ^ n : Nat) : Int)) ∧ 0 ≤ r.toInt ∧ r.toInt < ((2 ^ n : Nat) : Int))) : o_said σ n b l r = -1000000001 := by
  have e : o_may n b l r = -1000000001 := by unfold o_may; rw [if_neg h]
  unfold o_said
  rw [e, if_pos (by decide)]
theorem or_0 {a b : Int32} : (a ||| b) = 0 ↔ a = 0 ∧ b = 0 := by
  constructor
  · intro h
    have q : a.toBitVec ||| b.toBitVec = 0 := by rw [← Int32.toBitVec_or, h]; rfl
    have q2 := BitVec.or_eq_zero_iff.mp q
    exact ⟨Int32.toBitVec_inj.mp q2.1, Int32.toBitVec_inj.mp q2.2⟩
  · rintro ⟨rfl, rfl⟩; rfl
set_option maxRecDepth 100000 in
set_option maxHeartbeats 1000000 in
theorem C_sayOr {x : pX} {d : Nat} {S : pS} {Q : Int32 → pS → Prop} {cc m : Nat} {lv im tr ct as : Nat → Nat} {A : Nat → Nat → Int32} {F : Nat → Int32} {n nt np : Nat} (hI : IV S cc m lv im tr ct as A F n nt np) {b l r : Int32} (h : Q (o_said (A 288) n b l r) S) : PI x (d + 4) M_X8_sayOrRefuse [.ref cc, .int b, .int l, .int r] S Q := by
  have hC := hI.1
  have hMF := hI.2.1
  have hS := hC.wl
  have hW := hI.2.2.1.1
  have hX := hI.2.2.1.2.1
  have hMI := hI.2.2.1.2.2.1
  have hV := hI.2.2.1.2.2.2
  have hn := hMI.1.1
  have hn10 := hMI.1.2
  have ht := hMI.2.1.1
  have ht14 := hMI.2.1.2
  have hp := hMI.2.2.1.1
  have hp20 := hMI.2.2.1.2
  refine PM_of (by decide +kernel) (Nat.le_of_ble_eq_true rfl) ?_
  show V x (d + 4) M_X8_sayOrRefuse (qi Q) (0, 0) 0 [(0, .ref cc), (1, .int b), (2, .int l), (3, .int r)] [] S
  refine V_iln (pc := 0) dX8_sayOrRefuse_0 rfl rfl ?_
  refine V_iconst (pc := 1) (v := 0) dX8_sayOrRefuse_1 (by decide) ?_
  refine V_iconst (pc := 2) (v := 3) dX8_sayOrRefuse_2 (by decide) ?_
  refine V_cSi0 (pc := 3) (jc_X8_56 dX8_sayOrRefuse_3 rfl) rfl rfl (Nat.le_of_ble_eq_true rfl) ?_
  refine c_within (0) (3) (by decide) (by decide) (fun a1 a2 => ?_) (fun a0 => ?_)
  · obtain ⟨bn, hbn, ebn⟩ := int_n (v := b) (N := 3) (by omega) a2 (by decide)
    subst ebn
    have tbn : (nI bn).toInt = bn := nI_toInt (by omega)
    have cbn : (nI bn).toNatClampNeg = bn := nI_clamp (by omega)
    refine V_eq (pc := 6) (t := 31) dX8_sayOrRefuse_6 (by decide) (fun h => absurd h (by decide)) (fun _ => ?_)
    refine V_aln (pc := 9) dX8_sayOrRefuse_9 rfl rfl ?_
    refine V_gr (pc := 10) 8 0 256 dX8_sayOrRefuse_10 (FL_X8_10 rfl) rfl rfl hC.1 hC.rl ?_
    refine V_iln (pc := 13) dX8_sayOrRefuse_13 rfl rfl ?_
    refine V_cVi0 (pc := 14) (jc_X8_170 dX8_sayOrRefuse_14 rfl) rfl rfl (Nat.le_of_ble_eq_true rfl) (hS.k 0 (by decide) rfl) ?_
    refine w_isSet hS hW hn hn10 (fun l1 l2 => ?_) (fun l0 => ?_)
    · refine V_eq (pc := 17) (t := 31) dX8_sayOrRefuse_17 (by decide) (fun h => absurd h (by decide)) (fun _ => ?_)
      refine V_aln (pc := 20) dX8_sayOrRefuse_20 rfl rfl ?_
      refine V_gr (pc := 21) 8 0 256 dX8_sayOrRefuse_21 (FL_X8_10 rfl) rfl rfl hC.1 hC.rl ?_
      refine V_iln (pc := 24) dX8_sayOrRefuse_24 rfl rfl ?_
      refine V_cVi0 (pc := 25) (jc_X8_170 dX8_sayOrRefuse_25 rfl) rfl rfl (Nat.le_of_ble_eq_true rfl) (hS.k 0 (by decide) rfl) ?_
      refine w_isSet hS hW hn hn10 (fun r1 r2 => ?_) (fun r0 => ?_)
      · refine V_ne (pc := 28) (t := 34) dX8_sayOrRefuse_28 (by decide) (fun _ => ?_) (fun h => absurd h (by decide))
        refine V_iln (pc := 34) dX8_sayOrRefuse_34 rfl rfl ?_
        refine V_iln (pc := 35) dX8_sayOrRefuse_35 rfl rfl ?_
        refine V_iand (pc := 36) dX8_sayOrRefuse_36 ?_
        refine V_ne (pc := 37) (t := 46) dX8_sayOrRefuse_37 (by decide) (fun h37 => ?_) (fun h37 => ?_)
        · refine V_ldcw (pc := 46) dX8_sayOrRefuse_46 (KC_X8_314 rfl) ?_
          refine V_iret (pc := 49) dX8_sayOrRefuse_49 rfl rfl ?_
          have e : o_may n (nI bn) l r = -1000000002 := by unfold o_may; rw [if_pos (by omega), if_pos (by first | exact Or.inl h37 | exact Or.inr h43o)]
          unfold o_said at h
          rw [e, if_pos (by decide)] at h
          exact h
        · refine V_iln (pc := 40) dX8_sayOrRefuse_40 rfl rfl ?_
          refine V_iln (pc := 41) dX8_sayOrRefuse_41 rfl rfl ?_
          refine V_ior (pc := 42) dX8_sayOrRefuse_42 ?_
          refine V_ne (pc := 43) (t := 50) dX8_sayOrRefuse_43 (by decide) (fun h43 => ?_) (fun h43 => ?_)
          · have h43o : ¬ (l = 0 ∧ r = 0) := fun q => h43 (or_0.mpr q)
            refine V_aln (pc := 50) dX8_sayOrRefuse_50 rfl rfl ?_
            refine V_gr (pc := 51) 8 0 256 dX8_sayOrRefuse_51 (FL_X8_10 rfl) rfl rfl hC.1 hC.rl ?_
            refine V_iln (pc := 54) dX8_sayOrRefuse_54 rfl rfl ?_
            refine V_iln (pc := 55) dX8_sayOrRefuse_55 rfl rfl ?_
            refine V_aln (pc := 56) dX8_sayOrRefuse_56 rfl rfl ?_
            refine V_gr (pc := 57) 8 0 256 dX8_sayOrRefuse_57 (FL_X8_10 rfl) rfl rfl hC.1 hC.rl ?_
            refine V_iln (pc := 60) dX8_sayOrRefuse_60 rfl rfl ?_
            refine V_iconst (pc := 61) (v := 0) dX8_sayOrRefuse_61 (by decide) ?_
            refine V_cVi0 (pc := 62) (jc_X8_104 dX8_sayOrRefuse_62 rfl) rfl rfl (Nat.le_of_ble_eq_true rfl) (hS.k 0 (by decide) rfl) ?_
            refine w_armAt hS hW (s := 0) (by omega) (by decide) ?_
            refine V_aln (pc := 65) dX8_sayOrRefuse_65 rfl rfl ?_
            refine V_gr (pc := 66) 8 0 256 dX8_sayOrRefuse_66 (FL_X8_10 rfl) rfl rfl hC.1 hC.rl ?_
            refine V_iln (pc := 69) dX8_sayOrRefuse_69 rfl rfl ?_
            refine V_iconst (pc := 70) (v := 1) dX8_sayOrRefuse_70 (by decide) ?_
            refine V_cVi0 (pc := 71) (jc_X8_104 dX8_sayOrRefuse_71 rfl) rfl rfl (Nat.le_of_ble_eq_true rfl) (hS.k 0 (by decide) rfl) ?_
            refine w_armAt hS hW (s := 1) (by omega) (by decide) ?_
            refine V_cVi0 (pc := 74) (jc_X8_334 dX8_sayOrRefuse_74 rfl) rfl rfl (Nat.le_of_ble_eq_true rfl) (hS.k 0 (by decide) rfl) ?_
            refine w_sayOf hS hW hn hn10 ?_
            refine V_iret (pc := 77) dX8_sayOrRefuse_77 rfl rfl ?_
            have e : o_may n (nI bn) l r = 0 := by unfold o_may; rw [if_pos (by omega), if_neg (fun q => q.elim (fun w => w h37) h43o)]
            unfold o_said at h
            rw [e, if_neg (fun q => q rfl), cbn] at h
            exact h
          · have h43o : l = 0 ∧ r = 0 := or_0.mp h43
            refine V_ldcw (pc := 46) dX8_sayOrRefuse_46 (KC_X8_314 rfl) ?_
            refine V_iret (pc := 49) dX8_sayOrRefuse_49 rfl rfl ?_
            have e : o_may n (nI bn) l r = -1000000002 := by unfold o_may; rw [if_pos (by omega), if_pos (by first | exact Or.inl h37 | exact Or.inr h43o)]
            unfold o_said at h
            rw [e, if_pos (by decide)] at h
            exact h
      · refine V_ne (pc := 28) (t := 34) dX8_sayOrRefuse_28 (by decide) (fun h => absurd h (by decide)) (fun _ => ?_)
        refine V_ldc (pc := 31) dX8_sayOrRefuse_31 (KC_X8_60 rfl) ?_
        refine V_iret (pc := 33) dX8_sayOrRefuse_33 rfl rfl ?_
        rw [o_said_bad (by omega)] at h
        exact h
    · refine V_eq (pc := 17) (t := 31) dX8_sayOrRefuse_17 (by decide) (fun _ => ?_) (fun h => absurd h (by decide))
      refine V_ldc (pc := 31) dX8_sayOrRefuse_31 (KC_X8_60 rfl) ?_
      refine V_iret (pc := 33) dX8_sayOrRefuse_33 rfl rfl ?_
      rw [o_said_bad (by omega)] at h
      exact h
  · refine V_eq (pc := 6) (t := 31) dX8_sayOrRefuse_6 (by decide) (fun _ => ?_) (fun h => absurd h (by decide))
    refine V_ldc (pc := 31) dX8_sayOrRefuse_31 (KC_X8_60 rfl) ?_
    refine V_iret (pc := 33) dX8_sayOrRefuse_33 rfl rfl ?_
    rw [o_said_bad (by omega)] at h
    exact h
set_option maxRecDepth 100000 in
set_option maxHeartbeats 1000000 in
theorem C_said {x : pX} {d : Nat} {S : pS} {Q : Int32 → pS → Prop} {cc m : Nat} {lv im tr ct as : Nat → Nat} {A : Nat → Nat → Int32} {F : Nat → Int32} {n nt np : Nat} (hI : IV S cc m lv im tr ct as A F n nt np) {b l r : Int32} (h : ∀ S2 n2 nt2 np2, NX S S2 cc m lv im tr ct as (A) (F) n2 nt2 np2 → Q (o_said (A 288) n b l r) S2) : PI x (d + 5) M_X8_said [.ref cc, .int b, .int l, .int r] S Q := by
  have hC := hI.1
  have hMF := hI.2.1
  have hS := hC.wl
  have hW := hI.2.2.1.1
  have hX := hI.2.2.1.2.1
  have hMI := hI.2.2.1.2.2.1
  have hV := hI.2.2.1.2.2.2
  have hn := hMI.1.1
  have hn10 := hMI.1.2
  have ht := hMI.2.1.1
  have ht14 := hMI.2.1.2
  have hp := hMI.2.2.1.1
  have hp20 := hMI.2.2.1.2
  refine PM_of (by decide +kernel) (Nat.le_of_ble_eq_true rfl) ?_
  show V x (d + 5) M_X8_said (qi Q) (0, 0) 0 [(0, .ref cc), (1, .int b), (2, .int l), (3, .int r)] [] S
  refine V_aln (pc := 0) dX8_said_0 rfl rfl ?_
  refine V_iln (pc := 1) dX8_said_1 rfl rfl ?_
  refine V_iln (pc := 2) dX8_said_2 rfl rfl ?_
  refine V_iln (pc := 3) dX8_said_3 rfl rfl ?_
  refine V_cVi0 (pc := 4) (jc_X8_117 dX8_said_4 rfl) rfl rfl (Nat.le_of_ble_eq_true rfl) hC.1 ?_
  refine C_sayOr hI ?_
  refine V_iret (pc := 7) dX8_said_7 rfl rfl ?_
  exact h S _ _ _ (NX.rf hI)
set_option maxRecDepth 100000 in
set_option maxHeartbeats 1000000 in
theorem C_fall {x : pX} {d : Nat} {S : pS} {Q : Int32 → pS → Prop} {cc m : Nat} {lv im tr ct as : Nat → Nat} {A : Nat → Nat → Int32} {F : Nat → Int32} {n nt np : Nat} (hI : IV S cc m lv im tr ct as A F n nt np) {w : Int32} (h : ∀ S2 n2 nt2 np2, NX S S2 cc m lv im tr ct as (uA A (o_fall (A 288) n nt w).2) (F) n2 nt2 np2 → Q ((o_fall (A 288) n nt w).1) S2) : PI x (d + 7) M_X8_fall [.ref cc, .int w] S Q := by
  have hC := hI.1
  have hMF := hI.2.1
  have hS := hC.wl
  have hW := hI.2.2.1.1
  have hX := hI.2.2.1.2.1
  have hMI := hI.2.2.1.2.2.1
  have hV := hI.2.2.1.2.2.2
  have hn := hMI.1.1
  have hn10 := hMI.1.2
  have ht := hMI.2.1.1
  have ht14 := hMI.2.1.2
  have hp := hMI.2.2.1.1
  have hp20 := hMI.2.2.1.2
  refine PM_of (by decide +kernel) (Nat.le_of_ble_eq_true rfl) ?_
  show V x (d + 7) M_X8_fall (qi Q) (0, 0) 0 [(0, .ref cc), (1, .int w)] [] S
  refine V_aln (pc := 0) dX8_fall_0 rfl rfl ?_
  refine V_gr (pc := 1) 8 0 256 dX8_fall_1 (FL_X8_10 rfl) rfl rfl hC.1 hC.rl ?_
  refine V_iln (pc := 4) dX8_fall_4 rfl rfl ?_
  refine V_cVr0 (pc := 5) (jc_X8_70 dX8_fall_5 rfl) rfl rfl (Nat.le_of_ble_eq_true rfl) (hS.k 0 (by decide) rfl) ?_
  refine w_weightAt hS hW hn hn10 (fun i hi ei ti ci => ?_) (fun n0 => ?_)
  · subst ei
    refine V_asn (pc := 8) (ls' := [(0, .ref cc), (1, .int (nI i)), (2, .ref ((lv (10 + i))))]) dX8_fall_8 rfl (by decide) rfl ?_
    refine V_aln (pc := 9) dX8_fall_9 rfl rfl ?_
    refine V_ifnonnull (pc := 10) (t := 18) dX8_fall_10 (by decide) ?_
    refine V_aln (pc := 18) dX8_fall_18 rfl rfl ?_
    refine V_gr (pc := 19) 8 0 256 dX8_fall_19 (FL_X8_10 rfl) rfl rfl hC.1 hC.rl ?_
    refine V_aln (pc := 22) dX8_fall_22 rfl rfl ?_
    refine V_cVi0 (pc := 23) (jc_X8_135 dX8_fall_23 rfl) rfl rfl (Nat.le_of_ble_eq_true rfl) (hS.k 0 (by decide) rfl) ?_
    obtain ⟨G, hG, eG⟩ := (hV.1 i hi).2.2
    refine w_letFallAt hS hW ht ht14 hX (by omega) hG eG (fun S2 f2 W2 => ?_)
    refine V_iret (pc := 26) dX8_fall_26 rfl rfl ?_
    first
      | (have e : o_fall (A 288) n nt w = (-1000000001, A 288) := by unfold o_fall; rw [if_neg n0]
         rw [e] at h; exact h S _ _ _ (NX.rfu hI))
      | (have e : o_fall (A 288) n nt (nI i) = (ffall (A 288) nt i, sFall (A 288) nt i) := by unfold o_fall; rw [if_pos (by omega), ci]
         rw [e] at h; exact h S2 _ _ _ (hI.live f2 W2 (tl.rf.up (by omega) _) (hMI.up (by omega) _) (hV.fall nt hn10 hi)))
  · refine V_asnN (pc := 8) (ls' := [(0, .ref cc), (1, .int w), (2, .null)]) dX8_fall_8 rfl (by decide) rfl ?_
    refine V_alNn (pc := 9) dX8_fall_9 rfl rfl ?_
    refine V_ifnonnullN (pc := 10) (t := 18) dX8_fall_10 (by decide) ?_
    refine V_ldc (pc := 13) dX8_fall_13 (KC_X8_60 rfl) ?_
    refine V_goto (pc := 15) (t := 26) dX8_fall_15 (by decide) ?_
    refine V_iret (pc := 26) dX8_fall_26 rfl rfl ?_
    first
      | (have e : o_fall (A 288) n nt w = (-1000000001, A 288) := by unfold o_fall; rw [if_neg n0]
         rw [e] at h; exact h S _ _ _ (NX.rfu hI))
      | (have e : o_fall (A 288) n nt (nI i) = (ffall (A 288) nt i, sFall (A 288) nt i) := by unfold o_fall; rw [if_pos (by omega), ci]
         rw [e] at h; exact h S2 _ _ _ (hI.live f2 W2 (tl.rf.up (by omega) _) (hMI.up (by omega) _) (hV.fall nt hn10 hi)))
set_option maxRecDepth 100000 in
set_option maxHeartbeats 1000000 in
theorem C_shoot {x : pX} {d : Nat} {S : pS} {Q : Int32 → pS → Prop} {cc m : Nat} {lv im tr ct as : Nat → Nat} {A : Nat → Nat → Int32} {F : Nat → Int32} {n nt np : Nat} (hI : IV S cc m lv im tr ct as A F n nt np) {w k : Int32} (h : ∀ S2 n2 nt2 np2, NX S S2 cc m lv im tr ct as (uA A (o_shoot (A 288) n w k).2) (F) n2 nt2 np2 → Q ((o_shoot (A 288) n w k).1) S2) : PI x (d + 3) M_X8_shoot [.ref cc, .int w, .int k] S Q := by
  have hC := hI.1
  have hMF := hI.2.1
  have hS := hC.wl
  have hW := hI.2.2.1.1
  have hX := hI.2.2.1.2.1
  have hMI := hI.2.2.1.2.2.1
  have hV := hI.2.2.1.2.2.2
  have hn := hMI.1.1
  have hn10 := hMI.1.2
  have ht := hMI.2.1.1
  have ht14 := hMI.2.1.2
  have hp := hMI.2.2.1.1
  have hp20 := hMI.2.2.1.2
  refine PM_of (by decide +kernel) (Nat.le_of_ble_eq_true rfl) ?_
  show V x (d + 3) M_X8_shoot (qi Q) (0, 0) 0 [(0, .ref cc), (1, .int w), (2, .int k)] [] S
  refine V_aln (pc := 0) dX8_shoot_0 rfl rfl ?_
  refine V_gr (pc := 1) 8 0 256 dX8_shoot_1 (FL_X8_10 rfl) rfl rfl hC.1 hC.rl ?_
  refine V_iln (pc := 4) dX8_shoot_4 rfl rfl ?_
  refine V_cVr0 (pc := 5) (jc_X8_70 dX8_shoot_5 rfl) rfl rfl (Nat.le_of_ble_eq_true rfl) (hS.k 0 (by decide) rfl) ?_
  refine w_weightAt hS hW hn hn10 (fun i hi ei ti ci => ?_) (fun n0 => ?_)
  · subst ei
    refine V_asn (pc := 8) (ls' := [(0, .ref cc), (1, .int (nI i)), (2, .int k), (3, .ref ((lv (10 + i))))]) dX8_shoot_8 rfl (by decide) rfl ?_
    refine V_aln (pc := 9) dX8_shoot_9 rfl rfl ?_
    refine V_ifnull (pc := 10) (t := 24) dX8_shoot_10 (by decide) ?_
    refine V_iln (pc := 13) dX8_shoot_13 rfl rfl ?_
    refine V_iconst (pc := 14) (v := 1) dX8_shoot_14 (by decide) ?_
    refine V_sipush (pc := 15) (v := 999) dX8_shoot_15 (by decide) ?_
    refine V_cSi0 (pc := 18) (jc_X8_56 dX8_shoot_18 rfl) rfl rfl (Nat.le_of_ble_eq_true rfl) ?_
    refine c_within (1) (999) (by decide) (by decide) (fun a1 a2 => ?_) (fun a0 => ?_)
    · obtain ⟨q, hq, eq⟩ := int_n (v := k) (N := 999) (by omega) a2 (by decide)
      subst eq
      have tq : (nI q).toInt = q := nI_toInt (by omega)
      have cq : (nI q).toNatClampNeg = q := nI_clamp (by omega)
      refine V_ne (pc := 21) (t := 27) dX8_shoot_21 (by decide) (fun _ => ?_) (fun h => absurd h (by decide))
      refine V_aln (pc := 27) dX8_shoot_27 rfl rfl ?_
      refine V_gr (pc := 28) 8 0 256 dX8_shoot_28 (FL_X8_10 rfl) rfl rfl hC.1 hC.rl ?_
      refine V_aln (pc := 31) dX8_shoot_31 rfl rfl ?_
      refine V_iln (pc := 32) dX8_shoot_32 rfl rfl ?_
      refine V_cVi0 (pc := 33) (jc_X8_138 dX8_shoot_33 rfl) rfl rfl (Nat.le_of_ble_eq_true rfl) (hS.k 0 (by decide) rfl) ?_
      refine w_giveShotAt hS hW hi hn10 hV (by omega) (fun S2 f2 W2 => ?_)
      refine V_iret (pc := 36) dX8_shoot_36 rfl rfl ?_
      have e : o_shoot (A 288) n (nI i) (nI q) = (ftook (A 288 (14 + 4 * i + 2)) (nI q), sTake (A 288) i (nI q)) := by unfold o_shoot; rw [if_pos (by omega), ci]
      rw [e] at h
      exact h S2 _ _ _ (hI.live f2 W2 ((tl.rf.up (by omega) _).up (by omega) _) ((hMI.up (by omega) _).up (by omega) _) (hV.take hn10 hi (by omega)).1)
    · refine V_ne (pc := 21) (t := 27) dX8_shoot_21 (by decide) (fun h => absurd h (by decide)) (fun _ => ?_)
      refine V_ldc (pc := 24) dX8_shoot_24 (KC_X8_60 rfl) ?_
      refine V_iret (pc := 26) dX8_shoot_26 rfl rfl ?_
      unfold o_shoot at h
      rw [if_neg (by omega)] at h
      exact h S _ _ _ (NX.rfu hI)
  · refine V_asnN (pc := 8) (ls' := [(0, .ref cc), (1, .int w), (2, .int k), (3, .null)]) dX8_shoot_8 rfl (by decide) rfl ?_
    refine V_alNn (pc := 9) dX8_shoot_9 rfl rfl ?_
    refine V_ifnullN (pc := 10) (t := 24) dX8_shoot_10 (by decide) ?_
    refine V_ldc (pc := 24) dX8_shoot_24 (KC_X8_60 rfl) ?_
    refine V_iret (pc := 26) dX8_shoot_26 rfl rfl ?_
    unfold o_shoot at h
    rw [if_neg (by omega)] at h
    exact h S _ _ _ (NX.rfu hI)
set_option maxRecDepth 100000 in
set_option maxHeartbeats 1000000 in
theorem C_monday {x : pX} {d : Nat} {S : pS} {Q : Int32 → pS → Prop} {cc m : Nat} {lv im tr ct as : Nat → Nat} {A : Nat → Nat → Int32} {F : Nat → Int32} {n nt np : Nat} (hI : IV S cc m lv im tr ct as A F n nt np) (h : ∀ S2 n2 nt2 np2, NX S S2 cc m lv im tr ct as (uA A (monS (A 288) nt n).1) (F) n2 nt2 np2 → Q ((monS (A 288) nt n).2) S2) : PI x (d + 6) M_X8_monday [.ref cc] S Q := by
  have hC := hI.1
  have hMF := hI.2.1
  have hS := hC.wl
  have hW := hI.2.2.1.1
  have hX := hI.2.2.1.2.1
  have hMI := hI.2.2.1.2.2.1
  have hV := hI.2.2.1.2.2.2
  have hn := hMI.1.1
  have hn10 := hMI.1.2
  have ht := hMI.2.1.1
  have ht14 := hMI.2.1.2
  have hp := hMI.2.2.1.1
  have hp20 := hMI.2.2.1.2
  refine PM_of (by decide +kernel) (Nat.le_of_ble_eq_true rfl) ?_
  show V x (d + 6) M_X8_monday (qi Q) (0, 0) 0 [(0, .ref cc)] [] S
  refine V_aln (pc := 0) dX8_monday_0 rfl rfl ?_
  refine V_gr (pc := 1) 8 0 256 dX8_monday_1 (FL_X8_10 rfl) rfl rfl hC.1 hC.rl ?_
  refine V_cVi0 (pc := 4) (jc_X8_142 dX8_monday_4 rfl) rfl rfl (Nat.le_of_ble_eq_true rfl) (hS.k 0 (by decide) rfl) ?_
  refine w_makeRight hS hW hn hn10 ht ht14 hX hV (fun S2 f2 W2 => ?_)
  refine V_iret (pc := 7) dX8_monday_7 rfl rfl ?_
  have mm := monS_mk (A 288) nt n hn10
  exact h S2 _ _ _ (hI.live f2 W2 mm.l (hMI.same mm) (monS_VI nt hV hn10 n (Nat.le_refl _)))
set_option maxRecDepth 100000 in
set_option maxHeartbeats 1000000 in
theorem C_fine {x : pX} {d : Nat} {S : pS} {Q : Int32 → pS → Prop} {cc m : Nat} {lv im tr ct as : Nat → Nat} {A : Nat → Nat → Int32} {F : Nat → Int32} {n nt np : Nat} (hI : IV S cc m lv im tr ct as A F n nt np) {w : Int32} (h : ∀ S2 n2 nt2 np2, NX S S2 cc m lv im tr ct as (A) (F) n2 nt2 np2 → Q (o_fine (A 288) n nt w) S2) : PI x (d + 5) M_X8_fine [.ref cc, .int w] S Q := by
  have hC := hI.1
  have hMF := hI.2.1
  have hS := hC.wl
  have hW := hI.2.2.1.1
  have hX := hI.2.2.1.2.1
  have hMI := hI.2.2.1.2.2.1
  have hV := hI.2.2.1.2.2.2
  have hn := hMI.1.1
  have hn10 := hMI.1.2
  have ht := hMI.2.1.1
  have ht14 := hMI.2.1.2
  have hp := hMI.2.2.1.1
  have hp20 := hMI.2.2.1.2
  refine PM_of (by decide +kernel) (Nat.le_of_ble_eq_true rfl) ?_
  show V x (d + 5) M_X8_fine (qi Q) (0, 0) 0 [(0, .ref cc), (1, .int w)] [] S
  refine V_aln (pc := 0) dX8_fine_0 rfl rfl ?_
  refine V_gr (pc := 1) 8 0 256 dX8_fine_1 (FL_X8_10 rfl) rfl rfl hC.1 hC.rl ?_
  refine V_iln (pc := 4) dX8_fine_4 rfl rfl ?_
  refine V_cVr0 (pc := 5) (jc_X8_70 dX8_fine_5 rfl) rfl rfl (Nat.le_of_ble_eq_true rfl) (hS.k 0 (by decide) rfl) ?_
  refine w_weightAt hS hW hn hn10 (fun i hi ei ti ci => ?_) (fun n0 => ?_)
  · subst ei
    refine V_asn (pc := 8) (ls' := [(0, .ref cc), (1, .int (nI i)), (2, .ref ((lv (10 + i))))]) dX8_fine_8 rfl (by decide) rfl ?_
    refine V_aln (pc := 9) dX8_fine_9 rfl rfl ?_
    refine V_ifnonnull (pc := 10) (t := 18) dX8_fine_10 (by decide) ?_
    refine V_aln (pc := 18) dX8_fine_18 rfl rfl ?_
    refine V_gr (pc := 19) 8 0 256 dX8_fine_19 (FL_X8_10 rfl) rfl rfl hC.1 hC.rl ?_
    refine V_aln (pc := 22) dX8_fine_22 rfl rfl ?_
    refine V_cVi0 (pc := 23) (jc_X8_209 dX8_fine_23 rfl) rfl rfl (Nat.le_of_ble_eq_true rfl) (hS.k 0 (by decide) rfl) ?_
    refine w_fineAt hS hW ht ht14 hX (by omega) (fun S2 z2 => ?_)
    refine V_iret (pc := 26) dX8_fine_26 rfl rfl ?_
    first
      | (have e : o_fine (A 288) n nt w = -1000000001 := by unfold o_fine; rw [if_neg n0]
         rw [e] at h; exact h S _ _ _ (NX.rf hI))
      | (have e : o_fine (A 288) n nt (nI i) = ffine (A 288) nt i := by unfold o_fine; rw [if_pos (by omega), ci]
         rw [e] at h; exact h S2 _ _ _ (hI.z z2))
  · refine V_asnN (pc := 8) (ls' := [(0, .ref cc), (1, .int w), (2, .null)]) dX8_fine_8 rfl (by decide) rfl ?_
    refine V_alNn (pc := 9) dX8_fine_9 rfl rfl ?_
    refine V_ifnonnullN (pc := 10) (t := 18) dX8_fine_10 (by decide) ?_
    refine V_ldc (pc := 13) dX8_fine_13 (KC_X8_60 rfl) ?_
    refine V_goto (pc := 15) (t := 26) dX8_fine_15 (by decide) ?_
    refine V_iret (pc := 26) dX8_fine_26 rfl rfl ?_
    first
      | (have e : o_fine (A 288) n nt w = -1000000001 := by unfold o_fine; rw [if_neg n0]
         rw [e] at h; exact h S _ _ _ (NX.rf hI))
      | (have e : o_fine (A 288) n nt (nI i) = ffine (A 288) nt i := by unfold o_fine; rw [if_pos (by omega), ci]
         rw [e] at h; exact h S2 _ _ _ (hI.z z2))
set_option maxRecDepth 100000 in
set_option maxHeartbeats 1000000 in
theorem C_why {x : pX} {d : Nat} {S : pS} {Q : Int32 → pS → Prop} {cc m : Nat} {lv im tr ct as : Nat → Nat} {A : Nat → Nat → Int32} {F : Nat → Int32} {n nt np : Nat} (hI : IV S cc m lv im tr ct as A F n nt np) {k : Int32} (h : ∀ S2 n2 nt2 np2, NX S S2 cc m lv im tr ct as (A) (F) n2 nt2 np2 → Q (o_why (A 288) nt k) S2) : PI x (d + 3) M_X8_why [.ref cc, .int k] S Q := by
  have hC := hI.1
  have hMF := hI.2.1
  have hS := hC.wl
  have hW := hI.2.2.1.1
  have hX := hI.2.2.1.2.1
  have hMI := hI.2.2.1.2.2.1
  have hV := hI.2.2.1.2.2.2
  have hn := hMI.1.1
  have hn10 := hMI.1.2
  have ht := hMI.2.1.1
  have ht14 := hMI.2.1.2
  have hp := hMI.2.2.1.1
  have hp20 := hMI.2.2.1.2
  refine PM_of (by decide +kernel) (Nat.le_of_ble_eq_true rfl) ?_
  show V x (d + 3) M_X8_why (qi Q) (0, 0) 0 [(0, .ref cc), (1, .int k)] [] S
  refine V_iln (pc := 0) dX8_why_0 rfl rfl ?_
  refine V_iconst (pc := 1) (v := 0) dX8_why_1 (by decide) ?_
  refine V_iconst (pc := 2) (v := 2) dX8_why_2 (by decide) ?_
  refine V_cSi0 (pc := 3) (jc_X8_56 dX8_why_3 rfl) rfl rfl (Nat.le_of_ble_eq_true rfl) ?_
  refine c_within (0) (2) (by decide) (by decide) (fun a1 a2 => ?_) (fun a0 => ?_)
  · refine V_eq (pc := 6) (t := 20) dX8_why_6 (by decide) (fun h => absurd h (by decide)) (fun _ => ?_)
    refine V_aln (pc := 9) dX8_why_9 rfl rfl ?_
    refine V_gr (pc := 10) 8 0 256 dX8_why_10 (FL_X8_10 rfl) rfl rfl hC.1 hC.rl ?_
    refine V_iln (pc := 13) dX8_why_13 rfl rfl ?_
    refine V_cVi0 (pc := 14) (jc_X8_246 dX8_why_14 rfl) rfl rfl (Nat.le_of_ble_eq_true rfl) (hS.k 0 (by decide) rfl) ?_
    refine w_countingText hS hW hX (fun i hi ei => ?_) (fun n0 => absurd ⟨a1, a2⟩ n0)
    refine V_goto (pc := 17) (t := 22) dX8_why_17 (by decide) ?_
    refine V_iret (pc := 22) dX8_why_22 rfl rfl ?_
    first
      | (have e : o_why (A 288) nt k = -1000000001 := by unfold o_why; rw [if_neg a0]
         rw [e] at h; exact h S _ _ _ (NX.rf hI))
      | (subst ei; unfold o_why at h; rw [if_pos ⟨a1, a2⟩] at h; exact h S _ _ _ (NX.rf hI))
  · refine V_eq (pc := 6) (t := 20) dX8_why_6 (by decide) (fun _ => ?_) (fun h => absurd h (by decide))
    refine V_ldc (pc := 20) dX8_why_20 (KC_X8_60 rfl) ?_
    refine V_iret (pc := 22) dX8_why_22 rfl rfl ?_
    first
      | (have e : o_why (A 288) nt k = -1000000001 := by unfold o_why; rw [if_neg a0]
         rw [e] at h; exact h S _ _ _ (NX.rf hI))
      | (subst ei; unfold o_why at h; rw [if_pos ⟨a1, a2⟩] at h; exact h S _ _ _ (NX.rf hI))
set_option maxRecDepth 100000 in
set_option maxHeartbeats 1000000 in
theorem C_textTold {x : pX} {d : Nat} {S : pS} {Q : Int32 → pS → Prop} {cc m : Nat} {lv im tr ct as : Nat → Nat} {A : Nat → Nat → Int32} {F : Nat → Int32} {n nt np : Nat} (hI : IV S cc m lv im tr ct as A F n nt np) {t v : Int32} (h : ∀ S2 n2 nt2 np2, NX S S2 cc m lv im tr ct as (A) (F) n2 nt2 np2 → Q (o_textTold (A 288) nt t v) S2) : PI x (d + 2) M_X8_textTold [.ref cc, .int t, .int v] S Q := by
  have hC := hI.1
  have hMF := hI.2.1
  have hS := hC.wl
  have hW := hI.2.2.1.1
  have hX := hI.2.2.1.2.1
  have hMI := hI.2.2.1.2.2.1
  have hV := hI.2.2.1.2.2.2
  have hn := hMI.1.1
  have hn10 := hMI.1.2
  have ht := hMI.2.1.1
  have ht14 := hMI.2.1.2
  have hp := hMI.2.2.1.1
  have hp20 := hMI.2.2.1.2
  refine PM_of (by decide +kernel) (Nat.le_of_ble_eq_true rfl) ?_
  show V x (d + 2) M_X8_textTold (qi Q) (0, 0) 0 [(0, .ref cc), (1, .int t), (2, .int v)] [] S
  refine V_aln (pc := 0) dX8_textTold_0 rfl rfl ?_
  refine V_gr (pc := 1) 8 0 256 dX8_textTold_1 (FL_X8_10 rfl) rfl rfl hC.1 hC.rl ?_
  refine V_iln (pc := 4) dX8_textTold_4 rfl rfl ?_
  refine V_cVr0 (pc := 5) (jc_X8_234 dX8_textTold_5 rfl) rfl rfl (Nat.le_of_ble_eq_true rfl) (hS.k 0 (by decide) rfl) ?_
  refine w_textAt hS hW ht ht14 hX (fun i τ hi ei ti ci eY oT => ?_) (fun n0 => ?_)
  · subst ei
    refine V_asn (pc := 8) (ls' := [(0, .ref cc), (1, .int (nI i)), (2, .int v), (3, .ref τ)]) dX8_textTold_8 rfl (by decide) rfl ?_
    refine V_aln (pc := 9) dX8_textTold_9 rfl rfl ?_
    refine V_ifnull (pc := 10) (t := 22) dX8_textTold_10 (by decide) ?_
    refine V_iln (pc := 13) dX8_textTold_13 rfl rfl ?_
    refine V_iconst (pc := 14) (v := 0) dX8_textTold_14 (by decide) ?_
    refine V_iconst (pc := 15) (v := 1) dX8_textTold_15 (by decide) ?_
    refine V_cSi0 (pc := 16) (jc_X8_56 dX8_textTold_16 rfl) rfl rfl (Nat.le_of_ble_eq_true rfl) ?_
    refine c_within (0) (1) (by decide) (by decide) (fun a1 a2 => ?_) (fun a0 => ?_)
    · refine V_ne (pc := 19) (t := 25) dX8_textTold_19 (by decide) (fun _ => ?_) (fun h => absurd h (by decide))
      refine V_iln (pc := 25) dX8_textTold_25 rfl rfl ?_
      refine V_ne (pc := 26) (t := 36) dX8_textTold_26 (by decide) (fun h26 => ?_) (fun h26 => ?_)
      · refine V_aln (pc := 36) dX8_textTold_36 rfl rfl ?_
        refine V_gie (pc := 37) 5 1 161 dX8_textTold_37 (FL_X8_243 rfl) rfl rfl oT.1 oT.2.2.1 ?_
        refine V_iret (pc := 40) dX8_textTold_40 rfl rfl ?_
        first
          | (have e : o_textTold (A 288) nt (nI i) v = A 288 (154 + 200 * i) := by unfold o_textTold; rw [if_pos (by omega), ci, h26]; rfl
             rw [e] at h; exact h S _ _ _ (NX.rf hI))
          | (obtain ⟨q, hq, eq⟩ := int_n (v := v) (N := 1) a1 a2 (by decide)
             obtain rfl : q = 1 := by rcases (show q = 0 ∨ q = 1 by omega) with w | w; exact absurd (by rw [eq, w]; rfl) h26; exact w
             have e : o_textTold (A 288) nt (nI i) v = A 288 (155 + 200 * i) := by unfold o_textTold; rw [if_pos (by omega), ci, eq]; exact congrArg (A 288) (show 154 + 200 * i + 1 = 155 + 200 * i by omega)
             rw [e] at h; exact h S _ _ _ (NX.rf hI))
      · refine V_aln (pc := 29) dX8_textTold_29 rfl rfl ?_
        refine V_gie (pc := 30) 5 0 160 dX8_textTold_30 (FL_X8_238 rfl) rfl rfl oT.1 oT.2.1 ?_
        refine V_goto (pc := 33) (t := 40) dX8_textTold_33 (by decide) ?_
        refine V_iret (pc := 40) dX8_textTold_40 rfl rfl ?_
        first
          | (have e : o_textTold (A 288) nt (nI i) v = A 288 (154 + 200 * i) := by unfold o_textTold; rw [if_pos (by omega), ci, h26]; rfl
             rw [e] at h; exact h S _ _ _ (NX.rf hI))
          | (obtain ⟨q, hq, eq⟩ := int_n (v := v) (N := 1) a1 a2 (by decide)
             obtain rfl : q = 1 := by rcases (show q = 0 ∨ q = 1 by omega) with w | w; exact absurd (by rw [eq, w]; rfl) h26; exact w
             have e : o_textTold (A 288) nt (nI i) v = A 288 (155 + 200 * i) := by unfold o_textTold; rw [if_pos (by omega), ci, eq]; exact congrArg (A 288) (show 154 + 200 * i + 1 = 155 + 200 * i by omega)
             rw [e] at h; exact h S _ _ _ (NX.rf hI))
    · refine V_ne (pc := 19) (t := 25) dX8_textTold_19 (by decide) (fun h => absurd h (by decide)) (fun _ => ?_)
      refine V_ldc (pc := 22) dX8_textTold_22 (KC_X8_60 rfl) ?_
      refine V_iret (pc := 24) dX8_textTold_24 rfl rfl ?_
      unfold o_textTold at h
      rw [if_neg (by omega)] at h
      exact h S _ _ _ (NX.rf hI)
  · refine V_asnN (pc := 8) (ls' := [(0, .ref cc), (1, .int t), (2, .int v), (3, .null)]) dX8_textTold_8 rfl (by decide) rfl ?_
    refine V_alNn (pc := 9) dX8_textTold_9 rfl rfl ?_
    refine V_ifnullN (pc := 10) (t := 22) dX8_textTold_10 (by decide) ?_
    refine V_ldc (pc := 22) dX8_textTold_22 (KC_X8_60 rfl) ?_
    refine V_iret (pc := 24) dX8_textTold_24 rfl rfl ?_
    unfold o_textTold at h
    rw [if_neg (by omega)] at h
    exact h S _ _ _ (NX.rf hI)
set_option maxRecDepth 100000 in
set_option maxHeartbeats 1000000 in
theorem C_count {x : pX} {d : Nat} {S : pS} {Q : Int32 → pS → Prop} {cc m : Nat} {lv im tr ct as : Nat → Nat} {A : Nat → Nat → Int32} {F : Nat → Int32} {n nt np : Nat} (hI : IV S cc m lv im tr ct as A F n nt np) {v : Int32} (h : ∀ S2 n2 nt2 np2, NX S S2 cc m lv im tr ct as (A) (F) n2 nt2 np2 → Q (o_count (A 288) n (F 316) (F 301) v) S2) : PI x (d + 3) M_X8_count [.ref cc, .int v] S Q := by
  have hC := hI.1
  have hMF := hI.2.1
  have hS := hC.wl
  have hW := hI.2.2.1.1
  have hX := hI.2.2.1.2.1
  have hMI := hI.2.2.1.2.2.1
  have hV := hI.2.2.1.2.2.2
  have hn := hMI.1.1
  have hn10 := hMI.1.2
  have ht := hMI.2.1.1
  have ht14 := hMI.2.1.2
  have hp := hMI.2.2.1.1
  have hp20 := hMI.2.2.1.2
  refine PM_of (by decide +kernel) (Nat.le_of_ble_eq_true rfl) ?_
  show V x (d + 3) M_X8_count (qi Q) (0, 0) 0 [(0, .ref cc), (1, .int v)] [] S
  refine V_iln (pc := 0) dX8_count_0 rfl rfl ?_
  refine V_tab (pc := 1) (t := 150) [56, 64, 79, 94, 105, 113, 121, 129, 134, 142] dX8_count_1 (by decide) (by decide) (by decide) (fun i1 q1 hq1 he1 => ?_) (fun ho1 => ?_)
  · match i1, hq1, he1 with
    | 0, hq, he => 
      cases hq
      have e1 : v = (0 : Int32) := Int32.toInt_inj.mp (by rw [he]; decide)
      refine V_aln (pc := 56) dX8_count_56 rfl rfl ?_
      refine V_gr (pc := 57) 8 0 256 dX8_count_57 (FL_X8_10 rfl) rfl rfl hC.1 hC.rl ?_
      refine V_gie (pc := 60) 7 1 225 dX8_count_60 (FL_X8_206 rfl) rfl rfl (hS.k 0 (by decide) rfl) (hW.1 225 0 0 (by decide)) ?_
      refine V_iret (pc := 63) dX8_count_63 rfl rfl ?_
      subst e1
      exact h S _ _ _ (NX.rf hI)
    | 1, hq, he => 
      cases hq
      have e1 : v = (1 : Int32) := Int32.toInt_inj.mp (by rw [he]; decide)
      refine V_aln (pc := 64) dX8_count_64 rfl rfl ?_
      refine V_gr (pc := 65) 8 0 256 dX8_count_65 (FL_X8_10 rfl) rfl rfl hC.1 hC.rl ?_
      refine V_aln (pc := 68) dX8_count_68 rfl rfl ?_
      refine V_gr (pc := 69) 8 0 256 dX8_count_69 (FL_X8_10 rfl) rfl rfl hC.1 hC.rl ?_
      refine V_cVi0 (pc := 72) (jc_X8_194 dX8_count_72 rfl) rfl rfl (Nat.le_of_ble_eq_true rfl) (hS.k 0 (by decide) rfl) ?_
      refine w_allSet hS hW hn hn10 ?_
      refine V_cVi0 (pc := 75) (jc_X8_191 dX8_count_75 rfl) rfl rfl (Nat.le_of_ble_eq_true rfl) (hS.k 0 (by decide) rfl) ?_
      refine w_grainsOf hS hW hn hn10 ?_
      refine V_iret (pc := 78) dX8_count_78 rfl rfl ?_
      subst e1
      exact h S _ _ _ (NX.rf hI)
    | 2, hq, he => 
      cases hq
      have e1 : v = (2 : Int32) := Int32.toInt_inj.mp (by rw [he]; decide)
      refine V_aln (pc := 79) dX8_count_79 rfl rfl ?_
      refine V_gr (pc := 80) 8 0 256 dX8_count_80 (FL_X8_10 rfl) rfl rfl hC.1 hC.rl ?_
      refine V_aln (pc := 83) dX8_count_83 rfl rfl ?_
      refine V_gr (pc := 84) 8 0 256 dX8_count_84 (FL_X8_10 rfl) rfl rfl hC.1 hC.rl ?_
      refine V_cVi0 (pc := 87) (jc_X8_194 dX8_count_87 rfl) rfl rfl (Nat.le_of_ble_eq_true rfl) (hS.k 0 (by decide) rfl) ?_
      refine w_allSet hS hW hn hn10 ?_
      refine V_cVi0 (pc := 90) (jc_X8_197 dX8_count_90 rfl) rfl rfl (Nat.le_of_ble_eq_true rfl) (hS.k 0 (by decide) rfl) ?_
      refine w_stampsOf hS hW hn hn10 ?_
      refine V_iret (pc := 93) dX8_count_93 rfl rfl ?_
      subst e1
      exact h S _ _ _ (NX.rf hI)
    | 3, hq, he => 
      cases hq
      have e1 : v = (3 : Int32) := Int32.toInt_inj.mp (by rw [he]; decide)
      refine V_aln (pc := 94) dX8_count_94 rfl rfl ?_
      refine V_gr (pc := 95) 8 0 256 dX8_count_95 (FL_X8_10 rfl) rfl rfl hC.1 hC.rl ?_
      refine V_gr (pc := 98) 7 3 227 dX8_count_98 (FL_X8_125 rfl) rfl rfl (hS.k 0 (by decide) rfl) hS.2.2.1.2.2.1 ?_
      refine V_gie (pc := 101) 0 1 1 dX8_count_101 (FL_X8_331 rfl) rfl rfl (hS.k 3 (by decide) rfl) (hW.1 1 3 5 (by decide)) ?_
      refine V_iret (pc := 104) dX8_count_104 rfl rfl ?_
      subst e1
      exact h S _ _ _ (NX.rf hI)
    | 4, hq, he => 
      cases hq
      have e1 : v = (4 : Int32) := Int32.toInt_inj.mp (by rw [he]; decide)
      refine V_aln (pc := 105) dX8_count_105 rfl rfl ?_
      refine V_gr (pc := 106) 8 0 256 dX8_count_106 (FL_X8_10 rfl) rfl rfl hC.1 hC.rl ?_
      refine V_gie (pc := 109) 7 4 228 dX8_count_109 (FL_X8_328 rfl) rfl rfl (hS.k 0 (by decide) rfl) (hW.1 228 0 2 (by decide)) ?_
      refine V_iret (pc := 112) dX8_count_112 rfl rfl ?_
      subst e1
      exact h S _ _ _ (NX.rf hI)
    | 5, hq, he => 
      cases hq
      have e1 : v = (5 : Int32) := Int32.toInt_inj.mp (by rw [he]; decide)
      refine V_aln (pc := 113) dX8_count_113 rfl rfl ?_
      refine V_gr (pc := 114) 8 0 256 dX8_count_114 (FL_X8_10 rfl) rfl rfl hC.1 hC.rl ?_
      refine V_gie (pc := 117) 7 5 229 dX8_count_117 (FL_X8_145 rfl) rfl rfl (hS.k 0 (by decide) rfl) (hW.1 229 0 3 (by decide)) ?_
      refine V_iret (pc := 120) dX8_count_120 rfl rfl ?_
      subst e1
      exact h S _ _ _ (NX.rf hI)
    | 6, hq, he => 
      cases hq
      have e1 : v = (6 : Int32) := Int32.toInt_inj.mp (by rw [he]; decide)
      refine V_aln (pc := 121) dX8_count_121 rfl rfl ?_
      refine V_gr (pc := 122) 8 0 256 dX8_count_122 (FL_X8_10 rfl) rfl rfl hC.1 hC.rl ?_
      refine V_gie (pc := 125) 7 8 232 dX8_count_125 (FL_X8_227 rfl) rfl rfl (hS.k 0 (by decide) rfl) (hW.1 232 0 1 (by decide)) ?_
      refine V_iret (pc := 128) dX8_count_128 rfl rfl ?_
      subst e1
      exact h S _ _ _ (NX.rf hI)
    | 7, hq, he => 
      cases hq
      have e1 : v = (7 : Int32) := Int32.toInt_inj.mp (by rw [he]; decide)
      refine V_aln (pc := 129) dX8_count_129 rfl rfl ?_
      refine V_gie (pc := 130) 8 9 265 dX8_count_130 (FL_X8_315 rfl) rfl rfl hC.1 rfl ?_
      refine V_iret (pc := 133) dX8_count_133 rfl rfl ?_
      subst e1
      rw [hI.2.2.2.2.2.2.1.2.1]
      exact h S _ _ _ (NX.rf hI)
    | 8, hq, he => 
      cases hq
      have e1 : v = (8 : Int32) := Int32.toInt_inj.mp (by rw [he]; decide)
      refine V_aln (pc := 134) dX8_count_134 rfl rfl ?_
      refine V_gr (pc := 135) 8 5 261 dX8_count_135 (FL_X8_33 rfl) rfl rfl hC.1 hC.r1 ?_
      refine V_gie (pc := 138) 4 1 129 dX8_count_138 (FL_X8_212 rfl) rfl rfl (hC.k 1 (by decide) rfl) rfl ?_
      refine V_iret (pc := 141) dX8_count_141 rfl rfl ?_
      subst e1
      rw [hI.2.2.2.2.2.2.2.2.1]
      exact h S _ _ _ (NX.rf hI)
    | 9, hq, he => 
      cases hq
      have e1 : v = (9 : Int32) := Int32.toInt_inj.mp (by rw [he]; decide)
      refine V_aln (pc := 142) dX8_count_142 rfl rfl ?_
      refine V_gr (pc := 143) 8 0 256 dX8_count_143 (FL_X8_10 rfl) rfl rfl hC.1 hC.rl ?_
      refine V_gie (pc := 146) 7 6 230 dX8_count_146 (FL_X8_114 rfl) rfl rfl (hS.k 0 (by decide) rfl) (hW.1 230 0 4 (by decide)) ?_
      refine V_iret (pc := 149) dX8_count_149 rfl rfl ?_
      subst e1
      exact h S _ _ _ (NX.rf hI)
    | n + 10, hq, _ => simp at hq
  · have ho1 : (v).toInt < 0 ∨ 10 ≤ (v).toInt := by have q := ho1; simp only [List.length_cons, List.length_nil] at q; omega
    refine V_ldc (pc := 150) dX8_count_150 (KC_X8_60 rfl) ?_
    refine V_iret (pc := 152) dX8_count_152 rfl rfl ?_
    have e : o_count (A 288) n (F 316) (F 301) v = -1000000001 := by
      unfold o_count
      rw [if_neg (fun q => by rw [q] at ho1; have k : (0 : Int32).toInt = 0 := rfl; omega)]; rw [if_neg (fun q => by rw [q] at ho1; have k : (1 : Int32).toInt = 1 := rfl; omega)]; rw [if_neg (fun q => by rw [q] at ho1; have k : (2 : Int32).toInt = 2 := rfl; omega)]; rw [if_neg (fun q => by rw [q] at ho1; have k : (3 : Int32).toInt = 3 := rfl; omega)]; rw [if_neg (fun q => by rw [q] at ho1; have k : (4 : Int32).toInt = 4 := rfl; omega)]; rw [if_neg (fun q => by rw [q] at ho1; have k : (5 : Int32).toInt = 5 := rfl; omega)]; rw [if_neg (fun q => by rw [q] at ho1; have k : (6 : Int32).toInt = 6 := rfl; omega)]; rw [if_neg (fun q => by rw [q] at ho1; have k : (7 : Int32).toInt = 7 := rfl; omega)]; rw [if_neg (fun q => by rw [q] at ho1; have k : (8 : Int32).toInt = 8 := rfl; omega)]; rw [if_neg (fun q => by rw [q] at ho1; have k : (9 : Int32).toInt = 9 := rfl; omega)]
    rw [e] at h
    exact h S _ _ _ (NX.rf hI)
