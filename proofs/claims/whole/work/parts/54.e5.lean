/-! ===== the class's reader: names, pieces, levels ===== -/
theorem nd_0 : ∀ c, c < 256 → ((decide (bi (ixc [103, 116, 115] c 3 0) < 0) = true ∧ decide (isNm 0 (nI c)) = false) ∨ (decide (bi (ixc [103, 116, 115] c 3 0) < 0) = false ∧ decide (isNm 0 (nI c)) = true ∧ 10000 + bi (ixc [103, 116, 115] c 3 0) = enc 0 1 (nI c))) := by decide +kernel
theorem inR_c {tp : Nat → Int32} {p c : Nat} {lo hi : Int} (e : tp p = nI c) (h : c < 2 ^ 30) : inR tp lo hi p = (lo ≤ (c : Int) ∧ (c : Int) ≤ hi) := by unfold inR; rw [e, nI_toInt (by omega)]
theorem nm_0 (c : Nat) (hc : c < 256) : (¬ bi (ixc [103, 116, 115] c 3 0) < 0 → isNm 0 (nI c) ∧ 10000 + bi (ixc [103, 116, 115] c 3 0) = enc 0 1 (nI c)) ∧ (bi (ixc [103, 116, 115] c 3 0) < 0 → ¬ isNm 0 (nI c)) := by
  rcases nd_0 c hc with ⟨h1, h2⟩ | ⟨h1, h2, h3⟩
  · exact ⟨fun q => absurd (of_decide_eq_true h1) q, fun _ => of_decide_eq_false h2⟩
  · exact ⟨fun _ => ⟨of_decide_eq_true h2, h3⟩, fun q => absurd q (of_decide_eq_false h1)⟩
theorem nd_1 : ∀ c, c < 256 → ((decide (bi (ixc [115, 100] c 2 0) < 0) = true ∧ decide (isNm 1 (nI c)) = false) ∨ (decide (bi (ixc [115, 100] c 2 0) < 0) = false ∧ decide (isNm 1 (nI c)) = true ∧ 10000 + bi (ixc [115, 100] c 2 0) = enc 1 1 (nI c))) := by decide +kernel
theorem nm_1 (c : Nat) (hc : c < 256) : (¬ bi (ixc [115, 100] c 2 0) < 0 → isNm 1 (nI c) ∧ 10000 + bi (ixc [115, 100] c 2 0) = enc 1 1 (nI c)) ∧ (bi (ixc [115, 100] c 2 0) < 0 → ¬ isNm 1 (nI c)) := by
  rcases nd_1 c hc with ⟨h1, h2⟩ | ⟨h1, h2, h3⟩
  · exact ⟨fun q => absurd (of_decide_eq_true h1) q, fun _ => of_decide_eq_false h2⟩
  · exact ⟨fun _ => ⟨of_decide_eq_true h2, h3⟩, fun q => absurd q (of_decide_eq_false h1)⟩
theorem nd_2 : ∀ c, c < 256 → ((decide (bi (ixc [108, 116] c 2 0) < 0) = true ∧ decide (isNm 2 (nI c)) = false) ∨ (decide (bi (ixc [108, 116] c 2 0) < 0) = false ∧ decide (isNm 2 (nI c)) = true ∧ 10000 + bi (ixc [108, 116] c 2 0) = enc 2 1 (nI c))) := by decide +kernel
theorem nm_2 (c : Nat) (hc : c < 256) : (¬ bi (ixc [108, 116] c 2 0) < 0 → isNm 2 (nI c) ∧ 10000 + bi (ixc [108, 116] c 2 0) = enc 2 1 (nI c)) ∧ (bi (ixc [108, 116] c 2 0) < 0 → ¬ isNm 2 (nI c)) := by
  rcases nd_2 c hc with ⟨h1, h2⟩ | ⟨h1, h2, h3⟩
  · exact ⟨fun q => absurd (of_decide_eq_true h1) q, fun _ => of_decide_eq_false h2⟩
  · exact ⟨fun _ => ⟨of_decide_eq_true h2, h3⟩, fun q => absurd q (of_decide_eq_false h1)⟩
set_option maxRecDepth 100000 in
set_option maxHeartbeats 1000000 in
theorem r_name_0 {x : pX} {d : Nat} {S : pS} {Q : Int32 → pS → Prop} {ct : Nat → Nat} {tp : Nat → Int32} {L : Nat} (hX : RX S ct tp L) (hx : XS x) {s : tk} (hk : tko L s) (hT : RT S ct tp s) (hd : tkd tp s) (y1 : s.2.2 = 1) (h37 : gI S 37 (ct 0) = 0) (h1 : s.2.1 - s.1 = 1 → isNm 0 (tp s.1) → Q (enc 0 1 (tp s.1)) S) (h0 : ¬ (s.2.1 - s.1 = 1 ∧ isNm 0 (tp s.1)) → Q (-1) S) : PI x (d + 8) M_X1_nameAhead [.ref ((ct 0))] S Q := by
  have h96 := hX.2.2.2.1.2
  have k1 := hk.1
  have k2 := hk.2.1
  have k3 := hk.2.2.1
  obtain ⟨ag, bg, mg, sg⟩ := hx.2.2.2.2.1
  have en := tok_en hT.2 (Or.inl y1)
  obtain ⟨c0, hc, ec⟩ := hX.2.2.2.2.2.1 s.1 (by omega)
  have lt := hd.2 y1
  rw [inR_c ec (by omega)] at lt
  have nm := nm_0 c0 hc
  refine PM_of (by decide +kernel) (Nat.le_of_ble_eq_true rfl) ?_
  show V x (d + 8) M_X1_nameAhead (qi Q) (0, 0) 0 [(0, .ref ((ct 0)))] [] S
  refine V_aln (pc := 0) dX1_nameAhead_0 rfl rfl ?_
  refine V_gie (pc := 1) 1 5 37 dX1_nameAhead_1 (FL_X1_56 rfl) rfl rfl hX.1.1 h37 ?_
  refine V_ne (pc := 4) (t := 12) dX1_nameAhead_4 (by decide) (fun h => absurd h (by decide)) (fun _ => ?_)
  refine V_str (pc := 7) dX1_nameAhead_7 mg ?_
  refine V_goto (pc := 9) (t := 27) dX1_nameAhead_9 (by decide) ?_
  refine V_asn (pc := 27) (ls' := [(0, .ref ((ct 0))), (1, .ref ag)]) dX1_nameAhead_27 rfl (by decide) rfl ?_
  refine V_aln (pc := 28) dX1_nameAhead_28 rfl rfl ?_
  refine V_aln (pc := 29) dX1_nameAhead_29 rfl rfl ?_
  refine V_gr (pc := 30) 1 0 32 dX1_nameAhead_30 (FL_X1_12 rfl) rfl rfl hX.1.1 hX.2.2.1.1 ?_
  refine V_aln (pc := 33) dX1_nameAhead_33 rfl rfl ?_
  refine V_gie (pc := 34) 1 2 34 dX1_nameAhead_34 (FL_X1_26 rfl) rfl rfl hX.1.1 rfl ?_
  refine V_cVi0 (pc := 37) (jc_X1_78 dX1_nameAhead_37 rfl) rfl rfl (Nat.le_of_ble_eq_true rfl) hX.1.2.1 ?_
  rw [hT.1]
  refine t_byteAt hX.1.2.1 hX.2.2.1.2.2 hX.1.2.2.1 hX.2.1.1 hX.2.2.2.1.1 h96 (fun j hj_ ej tj => ?_) (fun j0 => absurd ⟨by rw [nI_toInt (by omega)]; omega, by rw [nI_toInt (by omega)]; omega⟩ j0)
  · have e2 : s.1 = j := (nI_eq (by omega) (by omega)).mp ej
    subst e2
    rw [hX.2.2.2.2.1 _ (by omega), ec]
    refine V_i2c (pc := 40) dX1_nameAhead_40 ?_
    rw [chr_i c0 hc]
    refine V_cXi0 (pc := 41) (jc_X1_137 dX1_nameAhead_41 rfl) rfl rfl (Nat.le_of_ble_eq_true rfl) sg.1 ?_
    refine j_indexOf hx.1 sg (c0 := c0) (by omega) (by decide) ?_
    refine V_isn (pc := 44) (fun y => [(0, .ref ((ct 0))), (1, .ref ag), (2, .int y)]) dX1_nameAhead_44 rfl (by decide) (fun _ => rfl) (fun y44 ey44 => ?_)
    refine V_aln (pc := 45) dX1_nameAhead_45 rfl rfl ?_
    refine V_gie (pc := 46) 1 3 35 dX1_nameAhead_46 (FL_X1_29 rfl) rfl rfl hX.1.1 rfl ?_
    refine V_aln (pc := 49) dX1_nameAhead_49 rfl rfl ?_
    refine V_gie (pc := 50) 1 2 34 dX1_nameAhead_50 (FL_X1_26 rfl) rfl rfl hX.1.1 rfl ?_
    refine V_isub (pc := 53) dX1_nameAhead_53 ?_
    refine V_iconst (pc := 54) (v := 1) dX1_nameAhead_54 (by decide) ?_
    refine V_cne (pc := 55) (t := 70) dX1_nameAhead_55 (by decide) (fun h55 => ?_) (fun h55 => ?_)
    · rw [en, hT.1, nI_sub k2] at h55
      have ln : ¬ s.2.1 - s.1 = 1 := fun q => h55 (by rw [q]; rfl)
      refine V_iconst (pc := 70) (v := (-1)) dX1_nameAhead_70 (by decide) ?_
      refine V_iret (pc := 71) dX1_nameAhead_71 rfl rfl ?_
      first
        | exact h0 (fun q => ln q.1)
        | exact h0 (fun q => nn (by rw [← ec]; exact q.2))
        | (rw [show y44 = bi (ixc [103, 116, 115] c0 3 0) from ey44, yn.2, ← ec]; exact h1 ln (by rw [ec]; exact yn.1))
    · rw [en, hT.1, nI_sub k2] at h55
      have ln := (nI_eq (b := 1) (by omega) (by decide)).mp h55
      refine V_iln (pc := 58) dX1_nameAhead_58 rfl rfl ?_
      refine V_lt (pc := 59) (t := 70) dX1_nameAhead_59 (by decide) (fun h59 => ?_) (fun h59 => ?_)
      · rw [ey44] at h59
        have nn := nm.2 h59
        refine V_iconst (pc := 70) (v := (-1)) dX1_nameAhead_70 (by decide) ?_
        refine V_iret (pc := 71) dX1_nameAhead_71 rfl rfl ?_
        first
          | exact h0 (fun q => ln q.1)
          | exact h0 (fun q => nn (by rw [← ec]; exact q.2))
          | (rw [show y44 = bi (ixc [103, 116, 115] c0 3 0) from ey44, yn.2, ← ec]; exact h1 ln (by rw [ec]; exact yn.1))
      · rw [ey44] at h59
        have yn := nm.1 h59
        refine V_sipush (pc := 62) (v := 10000) dX1_nameAhead_62 (by decide) ?_
        refine V_iln (pc := 65) dX1_nameAhead_65 rfl rfl ?_
        refine V_iadd (pc := 66) dX1_nameAhead_66 ?_
        refine V_goto (pc := 67) (t := 71) dX1_nameAhead_67 (by decide) ?_
        refine V_iret (pc := 71) dX1_nameAhead_71 rfl rfl ?_
        first
          | exact h0 (fun q => ln q.1)
          | exact h0 (fun q => nn (by rw [← ec]; exact q.2))
          | (rw [show y44 = bi (ixc [103, 116, 115] c0 3 0) from ey44, yn.2, ← ec]; exact h1 ln (by rw [ec]; exact yn.1))
set_option maxRecDepth 100000 in
set_option maxHeartbeats 1000000 in
theorem r_name_1 {x : pX} {d : Nat} {S : pS} {Q : Int32 → pS → Prop} {ct : Nat → Nat} {tp : Nat → Int32} {L : Nat} (hX : RX S ct tp L) (hx : XS x) {s : tk} (hk : tko L s) (hT : RT S ct tp s) (hd : tkd tp s) (y1 : s.2.2 = 1) (h37 : gI S 37 (ct 0) = 1) (h1 : s.2.1 - s.1 = 1 → isNm 1 (tp s.1) → Q (enc 1 1 (tp s.1)) S) (h0 : ¬ (s.2.1 - s.1 = 1 ∧ isNm 1 (tp s.1)) → Q (-1) S) : PI x (d + 8) M_X1_nameAhead [.ref ((ct 0))] S Q := by
  have h96 := hX.2.2.2.1.2
  have k1 := hk.1
  have k2 := hk.2.1
  have k3 := hk.2.2.1
  obtain ⟨ag, bg, mg, sg⟩ := hx.2.2.2.2.2.1
  have en := tok_en hT.2 (Or.inl y1)
  obtain ⟨c0, hc, ec⟩ := hX.2.2.2.2.2.1 s.1 (by omega)
  have lt := hd.2 y1
  rw [inR_c ec (by omega)] at lt
  have nm := nm_1 c0 hc
  refine PM_of (by decide +kernel) (Nat.le_of_ble_eq_true rfl) ?_
  show V x (d + 8) M_X1_nameAhead (qi Q) (0, 0) 0 [(0, .ref ((ct 0)))] [] S
  refine V_aln (pc := 0) dX1_nameAhead_0 rfl rfl ?_
  refine V_gie (pc := 1) 1 5 37 dX1_nameAhead_1 (FL_X1_56 rfl) rfl rfl hX.1.1 h37 ?_
  refine V_ne (pc := 4) (t := 12) dX1_nameAhead_4 (by decide) (fun _ => ?_) (fun h => absurd h (by decide))
  refine V_aln (pc := 12) dX1_nameAhead_12 rfl rfl ?_
  refine V_gie (pc := 13) 1 5 37 dX1_nameAhead_13 (FL_X1_56 rfl) rfl rfl hX.1.1 h37 ?_
  refine V_iconst (pc := 16) (v := 1) dX1_nameAhead_16 (by decide) ?_
  refine V_cne (pc := 17) (t := 25) dX1_nameAhead_17 (by decide) (fun h => absurd h (by decide)) (fun _ => ?_)
  refine V_str (pc := 20) dX1_nameAhead_20 mg ?_
  refine V_goto (pc := 22) (t := 27) dX1_nameAhead_22 (by decide) ?_
  refine V_asn (pc := 27) (ls' := [(0, .ref ((ct 0))), (1, .ref ag)]) dX1_nameAhead_27 rfl (by decide) rfl ?_
  refine V_aln (pc := 28) dX1_nameAhead_28 rfl rfl ?_
  refine V_aln (pc := 29) dX1_nameAhead_29 rfl rfl ?_
  refine V_gr (pc := 30) 1 0 32 dX1_nameAhead_30 (FL_X1_12 rfl) rfl rfl hX.1.1 hX.2.2.1.1 ?_
  refine V_aln (pc := 33) dX1_nameAhead_33 rfl rfl ?_
  refine V_gie (pc := 34) 1 2 34 dX1_nameAhead_34 (FL_X1_26 rfl) rfl rfl hX.1.1 rfl ?_
  refine V_cVi0 (pc := 37) (jc_X1_78 dX1_nameAhead_37 rfl) rfl rfl (Nat.le_of_ble_eq_true rfl) hX.1.2.1 ?_
  rw [hT.1]
  refine t_byteAt hX.1.2.1 hX.2.2.1.2.2 hX.1.2.2.1 hX.2.1.1 hX.2.2.2.1.1 h96 (fun j hj_ ej tj => ?_) (fun j0 => absurd ⟨by rw [nI_toInt (by omega)]; omega, by rw [nI_toInt (by omega)]; omega⟩ j0)
  · have e2 : s.1 = j := (nI_eq (by omega) (by omega)).mp ej
    subst e2
    rw [hX.2.2.2.2.1 _ (by omega), ec]
    refine V_i2c (pc := 40) dX1_nameAhead_40 ?_
    rw [chr_i c0 hc]
    refine V_cXi0 (pc := 41) (jc_X1_137 dX1_nameAhead_41 rfl) rfl rfl (Nat.le_of_ble_eq_true rfl) sg.1 ?_
    refine j_indexOf hx.1 sg (c0 := c0) (by omega) (by decide) ?_
    refine V_isn (pc := 44) (fun y => [(0, .ref ((ct 0))), (1, .ref ag), (2, .int y)]) dX1_nameAhead_44 rfl (by decide) (fun _ => rfl) (fun y44 ey44 => ?_)
    refine V_aln (pc := 45) dX1_nameAhead_45 rfl rfl ?_
    refine V_gie (pc := 46) 1 3 35 dX1_nameAhead_46 (FL_X1_29 rfl) rfl rfl hX.1.1 rfl ?_
    refine V_aln (pc := 49) dX1_nameAhead_49 rfl rfl ?_
    refine V_gie (pc := 50) 1 2 34 dX1_nameAhead_50 (FL_X1_26 rfl) rfl rfl hX.1.1 rfl ?_
    refine V_isub (pc := 53) dX1_nameAhead_53 ?_
    refine V_iconst (pc := 54) (v := 1) dX1_nameAhead_54 (by decide) ?_
    refine V_cne (pc := 55) (t := 70) dX1_nameAhead_55 (by decide) (fun h55 => ?_) (fun h55 => ?_)
    · rw [en, hT.1, nI_sub k2] at h55
      have ln : ¬ s.2.1 - s.1 = 1 := fun q => h55 (by rw [q]; rfl)
      refine V_iconst (pc := 70) (v := (-1)) dX1_nameAhead_70 (by decide) ?_
      refine V_iret (pc := 71) dX1_nameAhead_71 rfl rfl ?_
      first
        | exact h0 (fun q => ln q.1)
        | exact h0 (fun q => nn (by rw [← ec]; exact q.2))
        | (rw [show y44 = bi (ixc [115, 100] c0 2 0) from ey44, yn.2, ← ec]; exact h1 ln (by rw [ec]; exact yn.1))
    · rw [en, hT.1, nI_sub k2] at h55
      have ln := (nI_eq (b := 1) (by omega) (by decide)).mp h55
      refine V_iln (pc := 58) dX1_nameAhead_58 rfl rfl ?_
      refine V_lt (pc := 59) (t := 70) dX1_nameAhead_59 (by decide) (fun h59 => ?_) (fun h59 => ?_)
      · rw [ey44] at h59
        have nn := nm.2 h59
        refine V_iconst (pc := 70) (v := (-1)) dX1_nameAhead_70 (by decide) ?_
        refine V_iret (pc := 71) dX1_nameAhead_71 rfl rfl ?_
        first
          | exact h0 (fun q => ln q.1)
          | exact h0 (fun q => nn (by rw [← ec]; exact q.2))
          | (rw [show y44 = bi (ixc [115, 100] c0 2 0) from ey44, yn.2, ← ec]; exact h1 ln (by rw [ec]; exact yn.1))
      · rw [ey44] at h59
        have yn := nm.1 h59
        refine V_sipush (pc := 62) (v := 10000) dX1_nameAhead_62 (by decide) ?_
        refine V_iln (pc := 65) dX1_nameAhead_65 rfl rfl ?_
        refine V_iadd (pc := 66) dX1_nameAhead_66 ?_
        refine V_goto (pc := 67) (t := 71) dX1_nameAhead_67 (by decide) ?_
        refine V_iret (pc := 71) dX1_nameAhead_71 rfl rfl ?_
        first
          | exact h0 (fun q => ln q.1)
          | exact h0 (fun q => nn (by rw [← ec]; exact q.2))
          | (rw [show y44 = bi (ixc [115, 100] c0 2 0) from ey44, yn.2, ← ec]; exact h1 ln (by rw [ec]; exact yn.1))
set_option maxRecDepth 100000 in
set_option maxHeartbeats 1000000 in
theorem r_name_2 {x : pX} {d : Nat} {S : pS} {Q : Int32 → pS → Prop} {ct : Nat → Nat} {tp : Nat → Int32} {L : Nat} (hX : RX S ct tp L) (hx : XS x) {s : tk} (hk : tko L s) (hT : RT S ct tp s) (hd : tkd tp s) (y1 : s.2.2 = 1) (h37 : gI S 37 (ct 0) = 2) (h1 : s.2.1 - s.1 = 1 → isNm 2 (tp s.1) → Q (enc 2 1 (tp s.1)) S) (h0 : ¬ (s.2.1 - s.1 = 1 ∧ isNm 2 (tp s.1)) → Q (-1) S) : PI x (d + 8) M_X1_nameAhead [.ref ((ct 0))] S Q := by
  have h96 := hX.2.2.2.1.2
  have k1 := hk.1
  have k2 := hk.2.1
  have k3 := hk.2.2.1
  obtain ⟨ag, bg, mg, sg⟩ := hx.2.2.2.2.2.2
  have en := tok_en hT.2 (Or.inl y1)
  obtain ⟨c0, hc, ec⟩ := hX.2.2.2.2.2.1 s.1 (by omega)
  have lt := hd.2 y1
  rw [inR_c ec (by omega)] at lt
  have nm := nm_2 c0 hc
  refine PM_of (by decide +kernel) (Nat.le_of_ble_eq_true rfl) ?_
  show V x (d + 8) M_X1_nameAhead (qi Q) (0, 0) 0 [(0, .ref ((ct 0)))] [] S
  refine V_aln (pc := 0) dX1_nameAhead_0 rfl rfl ?_
  refine V_gie (pc := 1) 1 5 37 dX1_nameAhead_1 (FL_X1_56 rfl) rfl rfl hX.1.1 h37 ?_
  refine V_ne (pc := 4) (t := 12) dX1_nameAhead_4 (by decide) (fun _ => ?_) (fun h => absurd h (by decide))
  refine V_aln (pc := 12) dX1_nameAhead_12 rfl rfl ?_
  refine V_gie (pc := 13) 1 5 37 dX1_nameAhead_13 (FL_X1_56 rfl) rfl rfl hX.1.1 h37 ?_
  refine V_iconst (pc := 16) (v := 1) dX1_nameAhead_16 (by decide) ?_
  refine V_cne (pc := 17) (t := 25) dX1_nameAhead_17 (by decide) (fun _ => ?_) (fun h => absurd h (by decide))
  refine V_str (pc := 25) dX1_nameAhead_25 mg ?_
  refine V_asn (pc := 27) (ls' := [(0, .ref ((ct 0))), (1, .ref ag)]) dX1_nameAhead_27 rfl (by decide) rfl ?_
  refine V_aln (pc := 28) dX1_nameAhead_28 rfl rfl ?_
  refine V_aln (pc := 29) dX1_nameAhead_29 rfl rfl ?_
  refine V_gr (pc := 30) 1 0 32 dX1_nameAhead_30 (FL_X1_12 rfl) rfl rfl hX.1.1 hX.2.2.1.1 ?_
  refine V_aln (pc := 33) dX1_nameAhead_33 rfl rfl ?_
  refine V_gie (pc := 34) 1 2 34 dX1_nameAhead_34 (FL_X1_26 rfl) rfl rfl hX.1.1 rfl ?_
  refine V_cVi0 (pc := 37) (jc_X1_78 dX1_nameAhead_37 rfl) rfl rfl (Nat.le_of_ble_eq_true rfl) hX.1.2.1 ?_
  rw [hT.1]
  refine t_byteAt hX.1.2.1 hX.2.2.1.2.2 hX.1.2.2.1 hX.2.1.1 hX.2.2.2.1.1 h96 (fun j hj_ ej tj => ?_) (fun j0 => absurd ⟨by rw [nI_toInt (by omega)]; omega, by rw [nI_toInt (by omega)]; omega⟩ j0)
  · have e2 : s.1 = j := (nI_eq (by omega) (by omega)).mp ej
    subst e2
    rw [hX.2.2.2.2.1 _ (by omega), ec]
    refine V_i2c (pc := 40) dX1_nameAhead_40 ?_
    rw [chr_i c0 hc]
    refine V_cXi0 (pc := 41) (jc_X1_137 dX1_nameAhead_41 rfl) rfl rfl (Nat.le_of_ble_eq_true rfl) sg.1 ?_
    refine j_indexOf hx.1 sg (c0 := c0) (by omega) (by decide) ?_
    refine V_isn (pc := 44) (fun y => [(0, .ref ((ct 0))), (1, .ref ag), (2, .int y)]) dX1_nameAhead_44 rfl (by decide) (fun _ => rfl) (fun y44 ey44 => ?_)
    refine V_aln (pc := 45) dX1_nameAhead_45 rfl rfl ?_
    refine V_gie (pc := 46) 1 3 35 dX1_nameAhead_46 (FL_X1_29 rfl) rfl rfl hX.1.1 rfl ?_
    refine V_aln (pc := 49) dX1_nameAhead_49 rfl rfl ?_
    refine V_gie (pc := 50) 1 2 34 dX1_nameAhead_50 (FL_X1_26 rfl) rfl rfl hX.1.1 rfl ?_
    refine V_isub (pc := 53) dX1_nameAhead_53 ?_
    refine V_iconst (pc := 54) (v := 1) dX1_nameAhead_54 (by decide) ?_
    refine V_cne (pc := 55) (t := 70) dX1_nameAhead_55 (by decide) (fun h55 => ?_) (fun h55 => ?_)
    · rw [en, hT.1, nI_sub k2] at h55
      have ln : ¬ s.2.1 - s.1 = 1 := fun q => h55 (by rw [q]; rfl)
      refine V_iconst (pc := 70) (v := (-1)) dX1_nameAhead_70 (by decide) ?_
      refine V_iret (pc := 71) dX1_nameAhead_71 rfl rfl ?_
      first
        | exact h0 (fun q => ln q.1)
        | exact h0 (fun q => nn (by rw [← ec]; exact q.2))
        | (rw [show y44 = bi (ixc [108, 116] c0 2 0) from ey44, yn.2, ← ec]; exact h1 ln (by rw [ec]; exact yn.1))
    · rw [en, hT.1, nI_sub k2] at h55
      have ln := (nI_eq (b := 1) (by omega) (by decide)).mp h55
      refine V_iln (pc := 58) dX1_nameAhead_58 rfl rfl ?_
      refine V_lt (pc := 59) (t := 70) dX1_nameAhead_59 (by decide) (fun h59 => ?_) (fun h59 => ?_)
      · rw [ey44] at h59
        have nn := nm.2 h59
        refine V_iconst (pc := 70) (v := (-1)) dX1_nameAhead_70 (by decide) ?_
        refine V_iret (pc := 71) dX1_nameAhead_71 rfl rfl ?_
        first
          | exact h0 (fun q => ln q.1)
          | exact h0 (fun q => nn (by rw [← ec]; exact q.2))
          | (rw [show y44 = bi (ixc [108, 116] c0 2 0) from ey44, yn.2, ← ec]; exact h1 ln (by rw [ec]; exact yn.1))
      · rw [ey44] at h59
        have yn := nm.1 h59
        refine V_sipush (pc := 62) (v := 10000) dX1_nameAhead_62 (by decide) ?_
        refine V_iln (pc := 65) dX1_nameAhead_65 rfl rfl ?_
        refine V_iadd (pc := 66) dX1_nameAhead_66 ?_
        refine V_goto (pc := 67) (t := 71) dX1_nameAhead_67 (by decide) ?_
        refine V_iret (pc := 71) dX1_nameAhead_71 rfl rfl ?_
        first
          | exact h0 (fun q => ln q.1)
          | exact h0 (fun q => nn (by rw [← ec]; exact q.2))
          | (rw [show y44 = bi (ixc [108, 116] c0 2 0) from ey44, yn.2, ← ec]; exact h1 ln (by rw [ec]; exact yn.1))
theorem r_name {x : pX} {d : Nat} {S : pS} {Q : Int32 → pS → Prop} {ct : Nat → Nat} {tp : Nat → Int32} {L : Nat} (hX : RX S ct tp L) (hx : XS x) {s : tk} (hk : tko L s) (hT : RT S ct tp s) (hd : tkd tp s) (y1 : s.2.2 = 1) {key : Int32} (hkey : key = 0 ∨ key = 1 ∨ key = 2) (h37 : gI S 37 (ct 0) = key) (h1 : s.2.1 - s.1 = 1 → isNm key (tp s.1) → Q (enc key 1 (tp s.1)) S) (h0 : ¬ (s.2.1 - s.1 = 1 ∧ isNm key (tp s.1)) → Q (-1) S) : PI x (d + 8) M_X1_nameAhead [.ref (ct 0)] S Q := by
  rcases hkey with e | e | e
  · subst e; exact r_name_0 hX hx hk hT hd y1 h37 h1 h0
  · subst e; exact r_name_1 hX hx hk hT hd y1 h37 h1 h0
  · subst e; exact r_name_2 hX hx hk hT hd y1 h37 h1 h0
/-- the reader, no fault yet: what is ahead is s, the steps are o -/
def PRS (S S0 : pS) (ct : Nat → Nat) (tp : Nat → Int32) (key : Int32) (s : tk) (o : sps) : Prop := fr (rT ct) S0 S ∧ RT S ct tp s ∧ tkd tp s ∧ gI S 36 (ct 0) = -1 ∧ gI S 37 (ct 0) = key ∧ gI S 38 (ct 0) = nI (cntN o) ∧ gI S 40 (ct 0) = nI o.length ∧ ∀ i, i < o.length → gX S (ct 3) i = enc key (o.getD i (0, 0)).1 (o.getD i (0, 0)).2
/-- the reader behind a fault -/
def PRF (S S0 : pS) (ct : Nat → Nat) (p : Nat) : Prop := fr (rT ct) S0 S ∧ (gI S 36 (ct 0) = nI p ∧ p ≤ 96) ∧ ∃ c : Nat, c ≤ 96 ∧ gI S 40 (ct 0) = nI c
section PRSS
variable {S S2 S0 : pS} {ct : Nat → Nat} {tp : Nat → Int32} {L : Nat} {key : Int32} {s : tk} {o : sps}
theorem PRS.go (h : PRS S S0 ct tp key s o) (hX : RX S ct tp L) (f : fg ct S S2) (t : RT S2 ct tp (nxs tp L s)) : PRS S2 S0 ct tp key (nxs tp L s) o := by
  obtain ⟨a, b, c, d, e, g, i, j⟩ := h
  have n3 : ct 3 ≠ ct 0 := hk_ne hX.1.2.2.2 hX.1.1 (by decide)
  exact ⟨a.tr f.r, t, nxt_d _ _ _ _, by rw [f.2 36 (by omega)]; exact d, by rw [f.2 37 (by omega)]; exact e, by rw [f.2 38 (by omega)]; exact g, by rw [f.2 40 (by omega)]; exact i, by rw [f.1.2.2 _ n3]; exact j⟩
theorem gD_a (o : sps) (y : Int32 × Int32) {i : Nat} (h : i < (o ++ [y]).length) : (i < o.length ∧ (o ++ [y]).getD i (0, 0) = o.getD i (0, 0)) ∨ (i = o.length ∧ (o ++ [y]).getD i (0, 0) = y) := by
  rw [List.length_append] at h
  rcases (show i < o.length ∨ i = o.length by simp only [List.length_cons, List.length_nil] at h; omega) with q | q
  · exact Or.inl ⟨q, gD_l o y q⟩
  · subst q; exact Or.inr ⟨rfl, gD_r o y⟩
/-- a sign's step is laid -/
theorem PRS.sg (h : PRS S S0 ct tp key s o) (v : Int32) : PRS (sI (sX S (ct 3) (upd (gX S (ct 3)) o.length (-v))) 40 (ct 0) (nI (o.length + 1))) S0 ct tp key s (o ++ [(2, v)]) := by
  obtain ⟨a, b, c, d, e, g, i, j⟩ := h
  have q : ∀ f, f ≠ 40 → gI (sI (sX S (ct 3) (upd (gX S (ct 3)) o.length (-v))) 40 (ct 0) (nI (o.length + 1))) f (ct 0) = gI S f (ct 0) := fun f hf => by rw [gI_sI, if_neg (by omega)]; rfl
  have cn : cntN (o ++ [(2, v)]) = cntN o := by unfold cntN; rw [List.countP_append]; rfl
  refine ⟨(a.sX (Or.inr rfl) _).sI (Or.inl rfl) _ _, ⟨by rw [q 34 (by decide)]; exact b.1, by rw [q 33 (by decide), q 35 (by decide)]; exact b.2⟩, c, by rw [q 36 (by decide)]; exact d, by rw [q 37 (by decide)]; exact e, by rw [q 38 (by decide), cn]; exact g, by rw [gI_sI, if_pos ⟨rfl, rfl⟩, List.length_append]; rfl, fun k hk => ?_⟩
  show gX (sX S (ct 3) _) (ct 3) k = _
  rw [gX_sX, if_pos rfl]
  rcases gD_a o _ hk with ⟨w1, w2⟩ | ⟨w1, w2⟩
  · rw [w2, pk_un (by omega)]; exact j k w1
  · subst w1; rw [w2, pk_us]; rfl
/-- a piece's step is laid -/
theorem PRS.pc (h : PRS S S0 ct tp key s o) {w : Int32} (hw : w = 0 ∨ w = 1) (v : Int32) : PRS (sI (sI (sX S (ct 3) (upd (gX S (ct 3)) o.length (enc key w v))) 40 (ct 0) (nI (o.length + 1))) 38 (ct 0) (nI (cntN o + 1))) S0 ct tp key s (o ++ [(w, v)]) := by
  obtain ⟨a, b, c, d, e, g, i, j⟩ := h
  have q : ∀ f, f ≠ 40 → f ≠ 38 → gI (sI (sI (sX S (ct 3) (upd (gX S (ct 3)) o.length (enc key w v))) 40 (ct 0) (nI (o.length + 1))) 38 (ct 0) (nI (cntN o + 1))) f (ct 0) = gI S f (ct 0) := fun f hf hf2 => by rw [gI_sI, if_neg (by omega), gI_sI, if_neg (by omega)]; rfl
  have cn : cntN (o ++ [(w, v)]) = cntN o + 1 := by unfold cntN; rw [List.countP_append]; rcases hw with e | e <;> (rw [e]; rfl)
  refine ⟨((a.sX (Or.inr rfl) _).sI (Or.inl rfl) _ _).sI (Or.inl rfl) _ _, ⟨by rw [q 34 (by decide) (by decide)]; exact b.1, by rw [q 33 (by decide) (by decide), q 35 (by decide) (by decide)]; exact b.2⟩, c, by rw [q 36 (by decide) (by decide)]; exact d, by rw [q 37 (by decide) (by decide)]; exact e, by rw [gI_sI, if_pos ⟨rfl, rfl⟩, cn], by rw [gI_sI, if_neg (by omega), gI_sI, if_pos ⟨rfl, rfl⟩, List.length_append]; rfl, fun k hk => ?_⟩
  show gX (sX S (ct 3) _) (ct 3) k = _
  rw [gX_sX, if_pos rfl]
  rcases gD_a o _ hk with ⟨w1, w2⟩ | ⟨w1, w2⟩
  · rw [w2, pk_un (by omega)]; exact j k w1
  · subst w1; rw [w2, pk_us]
theorem PRS.flt (h : PRS S S0 ct tp key s o) (h1 : s.1 ≤ 96) (h2 : o.length ≤ 96) : PRF (sI S 36 (ct 0) (nI s.1)) S0 ct s.1 := ⟨h.1.sI (Or.inl rfl) _ _, ⟨by rw [gI_sI, if_pos ⟨rfl, rfl⟩], h1⟩, o.length, h2, by rw [gI_sI, if_neg (by omega)]; exact h.2.2.2.2.2.2.1⟩
theorem PRF.st {p c : Nat} (h : PRF S S0 ct p) (hc : c < 96) (v : Int32) : PRF (sI (sX S (ct 3) (upd (gX S (ct 3)) c v)) 40 (ct 0) (nI (c + 1))) S0 ct p := ⟨(h.1.sX (Or.inr rfl) _).sI (Or.inl rfl) _ _, ⟨by rw [gI_sI, if_neg (by omega)]; exact h.2.1.1, h.2.1.2⟩, c + 1, by omega, by rw [gI_sI, if_pos ⟨rfl, rfl⟩]⟩
theorem PRF.ne {p : Nat} (h : PRF S S0 ct p) : ¬ gI S 36 (ct 0) = -1 := by rw [h.2.1.1]; exact nI_m (by have := h.2.1.2; omega) (k := 1) (by decide) (by decide)
end PRSS
section RADD
variable {x : pX} {d : Nat} {S S0 : pS} {Q : pS → Prop} {ct : Nat → Nat} {tp : Nat → Int32} {L : Nat} {key : Int32} {s : tk} {o : sps}
theorem r_sign (hX : RX S ct tp L) (h : PRS S S0 ct tp key s o) (ho : o.length < 96) {v w : Int32} (e : w = -v) (k : ∀ S2, PRS S2 S0 ct tp key s (o ++ [(2, v)]) → Q S2) : PV x (d + 1) M_X1_addStep [.ref (ct 0), .int w] S Q := by
  subst e
  exact r_addStep hX h.2.2.2.2.2.2.1 (by omega) (fun _ => k _ (h.sg v)) (fun q => absurd ho q)
theorem r_signF (hX : RX S ct tp L) {p : Nat} (h : PRF S S0 ct p) {w : Int32} (k : ∀ S2, PRF S2 S0 ct p → Q S2) : PV x (d + 1) M_X1_addStep [.ref (ct 0), .int w] S Q := by
  obtain ⟨c, hc, ec⟩ := h.2.2
  exact r_addStep hX ec hc (fun q => k _ (h.st q _)) (fun _ => k _ h)
end RADD
set_option maxRecDepth 100000 in
set_option maxHeartbeats 1000000 in
theorem r_piece {x : pX} {d : Nat} {S : pS} {Q : pS → Prop} {ct : Nat → Nat} {tp : Nat → Int32} {L : Nat} {S0 : pS} {key : Int32} {s : tk} {o : sps} (hX : RX S ct tp L) (hk : tko L s) (hP : PRS S S0 ct tp key s o) (ho : o.length ≤ s.1) {w vv v : Int32} (hw : w = 0 ∨ w = 1) (y1 : s.2.2 = 1 ∨ s.2.2 = 2) (ev : v = enc key w vv) (nv : ¬ v = -1) (h : ∀ S2, PRS S2 S0 ct tp key (nxs tp L s) (o ++ [(w, vv)]) → Q S2) : PV x (d + 4) M_X1_addPiece [.ref ((ct 0)), .int v] S Q := by
  have h96 := hX.2.2.2.1.2
  have k1 := hk.1
  have k2 := hk.2.1
  have k3 := hk.2.2.1
  refine PM_of (by decide +kernel) (Nat.le_of_ble_eq_true rfl) ?_
  show V x (d + 4) M_X1_addPiece (qv Q) (0, 0) 0 [(0, .ref ((ct 0))), (1, .int v)] [] S
  refine V_iln (pc := 0) dX1_addPiece_0 rfl rfl ?_
  refine V_iconst (pc := 1) (v := (-1)) dX1_addPiece_1 (by decide) ?_
  refine V_cne (pc := 2) (t := 10) dX1_addPiece_2 (by decide) (fun h2 => ?_) (fun h2 => ?_)
  · refine V_aln (pc := 10) dX1_addPiece_10 rfl rfl ?_
    refine V_iln (pc := 11) dX1_addPiece_11 rfl rfl ?_
    refine V_cVv0 (pc := 12) (jc_X1_115 dX1_addPiece_12 rfl) rfl rfl (Nat.le_of_ble_eq_true rfl) hX.1.1 ?_
    refine r_addStep hX hP.2.2.2.2.2.2.1 (by omega) (fun q => ?_) (fun q => absurd (by omega) q)
    · refine V_aln (pc := 15) dX1_addPiece_15 rfl rfl ?_
      refine V_dup (pc := 16) dX1_addPiece_16 rfl ?_
      refine V_gi (pc := 17) 1 6 38 dX1_addPiece_17 (FL_X1_35 rfl) rfl rfl hX.1.1 ?_
      refine V_iconst (pc := 20) (v := 1) dX1_addPiece_20 (by decide) ?_
      refine V_iadd (pc := 21) dX1_addPiece_21 ?_
      refine V_pi (pc := 22) 1 6 38 dX1_addPiece_22 (FL_X1_35 rfl) rfl rfl rfl hX.1.1 ?_
      rw [gI_sI, if_neg (by omega), show gI (sX S (ct 3) (upd (gX S (ct 3)) o.length v)) 38 (ct 0) = nI (cntN o) from hP.2.2.2.2.2.1, nI_1]
      refine V_aln (pc := 25) dX1_addPiece_25 rfl rfl ?_
      refine V_cVv0 (pc := 26) (jc_X1_41 dX1_addPiece_26 rfl) rfl rfl (Nat.le_of_ble_eq_true rfl) hX.1.1 ?_
      subst ev
      have P2 := hP.pc hw vv
      refine r_goS (hX.f ((( (fr.rf (T := rT ct)).sX (Or.inr rfl) _).sI (Or.inl rfl) _ _).sI (Or.inl rfl) _ _)) hk P2.2.1 (by omega) (fun S3 f3 T3 => ?_)
      refine V_ret (pc := 29) dX1_addPiece_29 rfl ?_
      exact h S3 (P2.go (hX.f (((fr.rf (T := rT ct)).sX (Or.inr rfl) _).sI (Or.inl rfl) _ _ |>.sI (Or.inl rfl) _ _)) f3 T3)
  · exact absurd h2 nv
set_option maxRecDepth 100000 in
set_option maxHeartbeats 1000000 in
theorem r_pieceF {x : pX} {d : Nat} {S : pS} {Q : pS → Prop} {ct : Nat → Nat} {tp : Nat → Int32} {L : Nat} {S0 : pS} {key : Int32} {s : tk} {o : sps} (hX : RX S ct tp L) (hk : tko L s) (hP : PRS S S0 ct tp key s o) (ho : o.length ≤ s.1) (h : ∀ S2, PRF S2 S0 ct s.1 → Q S2) : PV x (d + 4) M_X1_addPiece [.ref ((ct 0)), .int (-1)] S Q := by
  have h96 := hX.2.2.2.1.2
  have k1 := hk.1
  have k2 := hk.2.1
  refine PM_of (by decide +kernel) (Nat.le_of_ble_eq_true rfl) ?_
  show V x (d + 4) M_X1_addPiece (qv Q) (0, 0) 0 [(0, .ref ((ct 0))), (1, .int (-1))] [] S
  refine V_iln (pc := 0) dX1_addPiece_0 rfl rfl ?_
  refine V_iconst (pc := 1) (v := (-1)) dX1_addPiece_1 (by decide) ?_
  refine V_cne (pc := 2) (t := 10) dX1_addPiece_2 (by decide) (fun h => absurd h (by decide)) (fun _ => ?_)
  refine V_aln (pc := 5) dX1_addPiece_5 rfl rfl ?_
  refine V_cVv0 (pc := 6) (jc_X1_51 dX1_addPiece_6 rfl) rfl rfl (Nat.le_of_ble_eq_true rfl) hX.1.1 ?_
  refine r_stop hX.1.1 (fun _ => ?_) (fun q => absurd hP.2.2.2.1 q)
  rw [hP.2.1.1]
  refine V_ret (pc := 9) dX1_addPiece_9 rfl ?_
  exact h _ (hP.flt (by omega) (by omega))
set_option maxRecDepth 100000 in
set_option maxHeartbeats 1000000 in
theorem r_stopF {x : pX} {d : Nat} {S : pS} {Q : pS → Prop} {ct : Nat → Nat} {tp : Nat → Int32} {L : Nat} {S0 : pS} {key : Int32} {s : tk} {o : sps} (hX : RX S ct tp L) (hk : tko L s) (hP : PRS S S0 ct tp key s o) (ho : o.length ≤ s.1) (h : ∀ S2, PRF S2 S0 ct s.1 → Q S2) : PV x (d + 1) M_X1_stop [.ref ((ct 0))] S Q := by
  have h96 := hX.2.2.2.1.2
  have k1 := hk.1
  have k2 := hk.2.1
  refine PM_of (by decide +kernel) (Nat.le_of_ble_eq_true rfl) ?_
  show V x (d + 1) M_X1_stop (qv Q) (0, 0) 0 [(0, .ref ((ct 0)))] [] S
  refine V_aln (pc := 0) dX1_stop_0 rfl rfl ?_
  refine V_gie (pc := 1) 1 4 36 dX1_stop_1 (FL_X1_32 rfl) rfl rfl hX.1.1 rfl ?_
  refine V_iconst (pc := 4) (v := (-1)) dX1_stop_4 (by decide) ?_
  refine V_cne (pc := 5) (t := 16) dX1_stop_5 (by decide) (fun h5 => ?_) (fun h5 => ?_)
  · exact absurd hP.2.2.2.1 h5
  · refine V_aln (pc := 8) dX1_stop_8 rfl rfl ?_
    refine V_aln (pc := 9) dX1_stop_9 rfl rfl ?_
    refine V_gi (pc := 10) 1 2 34 dX1_stop_10 (FL_X1_26 rfl) rfl rfl hX.1.1 ?_
    refine V_pi (pc := 13) 1 4 36 dX1_stop_13 (FL_X1_32 rfl) rfl rfl rfl hX.1.1 ?_
    rw [hP.2.1.1]
    refine V_ret (pc := 16) dX1_stop_16 rfl ?_
    exact h _ (hP.flt (by omega) (by omega))
set_option maxRecDepth 100000 in
set_option maxHeartbeats 1000000 in
theorem r_close {x : pX} {d : Nat} {S : pS} {Q : pS → Prop} {ct : Nat → Nat} {tp : Nat → Int32} {L : Nat} {S0 : pS} {key : Int32} {s : tk} {o : sps} (hX : RX S ct tp L) (hk : tko L s) (hP : PRS S S0 ct tp key s o) (ho : o.length ≤ s.1) (h1 : s.2.2 = 3 → tp s.1 = 41 → ∀ S2, PRS S2 S0 ct tp key (nxs tp L s) o → Q S2) (h0 : ¬ (s.2.2 = 3 ∧ tp s.1 = 41) → ∀ S2, PRF S2 S0 ct s.1 → Q S2) : PV x (d + 4) M_X1_readClose [.ref ((ct 0))] S Q := by
  refine PM_of (by decide +kernel) (Nat.le_of_ble_eq_true rfl) ?_
  show V x (d + 4) M_X1_readClose (qv Q) (0, 0) 0 [(0, .ref ((ct 0)))] [] S
  refine V_aln (pc := 0) dX1_readClose_0 rfl rfl ?_
  refine V_gie (pc := 1) 1 4 36 dX1_readClose_1 (FL_X1_32 rfl) rfl rfl hX.1.1 rfl ?_
  refine V_iconst (pc := 4) (v := (-1)) dX1_readClose_4 (by decide) ?_
  refine V_ceq (pc := 5) (t := 9) dX1_readClose_5 (by decide) (fun h5 => ?_) (fun h5 => ?_)
  · refine V_aln (pc := 9) dX1_readClose_9 rfl rfl ?_
    refine V_gie (pc := 10) 1 1 33 dX1_readClose_10 (FL_X1_22 rfl) rfl rfl hX.1.1 rfl ?_
    refine V_bipush (pc := 13) (v := 41) dX1_readClose_13 (by decide) ?_
    refine V_cne (pc := 15) (t := 25) dX1_readClose_15 (by decide) (fun h15 => ?_) (fun h15 => ?_)
    · have y : ¬ (s.2.2 = 3 ∧ tp s.1 = 41) := fun q => h15 ((tok_s hX hk hP.2.1.2 (c := 41) (by decide)).mpr q)
      refine V_aln (pc := 25) dX1_readClose_25 rfl rfl ?_
      refine V_cVv0 (pc := 26) (jc_X1_51 dX1_readClose_26 rfl) rfl rfl (Nat.le_of_ble_eq_true rfl) hX.1.1 ?_
      refine r_stopF hX hk hP ho (fun S3 P3 => ?_)
      refine V_ret (pc := 29) dX1_readClose_29 rfl ?_
      first
        | exact h1 y.1 y.2 S3 (hP.go hX f3 T3)
        | exact h0 y S3 P3
    · have y := (tok_s hX hk hP.2.1.2 (c := 41) (by decide)).mp h15
      refine V_aln (pc := 18) dX1_readClose_18 rfl rfl ?_
      refine V_cVv0 (pc := 19) (jc_X1_41 dX1_readClose_19 rfl) rfl rfl (Nat.le_of_ble_eq_true rfl) hX.1.1 ?_
      refine r_goS hX hk hP.2.1 (Or.inr (Or.inr y.1)) (fun S3 f3 T3 => ?_)
      refine V_goto (pc := 22) (t := 29) dX1_readClose_22 (by decide) ?_
      refine V_ret (pc := 29) dX1_readClose_29 rfl ?_
      first
        | exact h1 y.1 y.2 S3 (hP.go hX f3 T3)
        | exact h0 y S3 P3
  · exact absurd hP.2.2.2.1 h5
set_option maxRecDepth 100000 in
set_option maxHeartbeats 1000000 in
theorem r_closeF {x : pX} {d : Nat} {S : pS} {Q : pS → Prop} {ct : Nat → Nat} {tp : Nat → Int32} {L : Nat} {S0 : pS} (hX : RX S ct tp L) {p : Nat} (hP : PRF S S0 ct p) (h : Q S) : PV x (d + 4) M_X1_readClose [.ref ((ct 0))] S Q := by
  refine PM_of (by decide +kernel) (Nat.le_of_ble_eq_true rfl) ?_
  show V x (d + 4) M_X1_readClose (qv Q) (0, 0) 0 [(0, .ref ((ct 0)))] [] S
  refine V_aln (pc := 0) dX1_readClose_0 rfl rfl ?_
  refine V_gie (pc := 1) 1 4 36 dX1_readClose_1 (FL_X1_32 rfl) rfl rfl hX.1.1 rfl ?_
  refine V_iconst (pc := 4) (v := (-1)) dX1_readClose_4 (by decide) ?_
  refine V_ceq (pc := 5) (t := 9) dX1_readClose_5 (by decide) (fun h5 => ?_) (fun h5 => ?_)
  · exact absurd h5 hP.ne
  · refine V_ret (pc := 8) dX1_readClose_8 rfl ?_
    exact h
