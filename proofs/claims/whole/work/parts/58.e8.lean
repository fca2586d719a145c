/-! ===== the class's reader: the tape as a text ===== -/
theorem rdT_k {tp : Nat → Int32} {L : Nat} (h : fkey tp (nxt tp L 0 3) < 0) : rdT tp L = (-1, nxt tp L 0 3, []) := by unfold rdT; rw [if_pos h]
theorem rdT_y {tp : Nat → Int32} {L : Nat} (h : ¬ fkey tp (nxt tp L 0 3) < 0) (h2 : (rdP tp L (fkey tp (nxt tp L 0 3)) 700 0 0 0 (nxs tp L (nxt tp L 0 3)) []).1 = true) (h3 : (rdP tp L (fkey tp (nxt tp L 0 3)) 700 0 0 0 (nxs tp L (nxt tp L 0 3)) []).2.1.2.2 = 0) : rdT tp L = (fkey tp (nxt tp L 0 3), (rdP tp L (fkey tp (nxt tp L 0 3)) 700 0 0 0 (nxs tp L (nxt tp L 0 3)) []).2) := by unfold rdT; rw [if_neg h, if_pos ⟨h2, h3⟩]
theorem rdT_n {tp : Nat → Int32} {L : Nat} (h : ¬ fkey tp (nxt tp L 0 3) < 0) (h2 : ¬ ((rdP tp L (fkey tp (nxt tp L 0 3)) 700 0 0 0 (nxs tp L (nxt tp L 0 3)) []).1 = true ∧ (rdP tp L (fkey tp (nxt tp L 0 3)) 700 0 0 0 (nxs tp L (nxt tp L 0 3)) []).2.1.2.2 = 0)) : rdT tp L = (-1, (rdP tp L (fkey tp (nxt tp L 0 3)) 700 0 0 0 (nxs tp L (nxt tp L 0 3)) []).2) := by unfold rdT; rw [if_neg h, if_neg h2]
theorem fkey_3 {tp : Nat → Int32} {s : tk} (h : ¬ fkey tp s < 0) : fkey tp s = 0 ∨ fkey tp s = 1 ∨ fkey tp s = 2 := by
  unfold fkey at *
  split
  · exact Or.inl rfl
  · split
    · exact Or.inr (Or.inl rfl)
    · split
      · exact Or.inr (Or.inr rfl)
      · rename_i a b c; rw [if_neg a, if_neg b, if_neg c] at h; exact absurd (by decide) h
/-- a Text in three new cells -/
def mkT (S : pS) (a q r n pcs : Nat) (key : Int32) (s : Nat → Int32) : pS := sR (nX (sR (sI (sI (sX (nX (nO S a 5) q n) q (va_cpy s (fun _ => 0) 0 0 n)) 160 a key) 161 a (nI pcs)) 162 a (some q)) r pcs) 163 a (some r)
set_option maxRecDepth 100000 in
set_option maxHeartbeats 1000000 in
theorem rt_65F {x : pX} {d : Nat} {S : pS} {b : Nat × Nat} {Q : Option Nat → pS → Prop} {ct : Nat → Nat} {tp : Nat → Int32} {L : Nat} {S0 : pS} (hX : RX S ct tp L) {p : Nat} (hP : PRF S S0 ct p) (h : Q none S) : V x (d + 730) M_X1_readTape (qr Q) b 65 [(0, .ref ((ct 0)))] [] S := by
  refine V_aln (pc := 65) dX1_readTape_65 rfl rfl ?_
  refine V_gie (pc := 66) 1 4 36 dX1_readTape_66 (FL_X1_32 rfl) rfl rfl hX.1.1 rfl ?_
  refine V_iconst (pc := 69) (v := (-1)) dX1_readTape_69 (by decide) ?_
  refine V_cne (pc := 70) (t := 102) dX1_readTape_70 (by decide) (fun h70 => ?_) (fun h70 => ?_)
  · refine V_null (pc := 102) dX1_readTape_102 ?_
    refine V_aretN (pc := 103) dX1_readTape_103 rfl (Or.inl ⟨_, rfl⟩) ?_
    exact h
  · exact absurd h70 hP.ne
set_option maxRecDepth 100000 in
set_option maxHeartbeats 1000000 in
theorem rt_53F {x : pX} {d : Nat} {S : pS} {b : Nat × Nat} {Q : Option Nat → pS → Prop} {ct : Nat → Nat} {tp : Nat → Int32} {L : Nat} {S0 : pS} (hX : RX S ct tp L) {p : Nat} (hP : PRF S S0 ct p) (h : Q none S) : V x (d + 730) M_X1_readTape (qr Q) b 53 [(0, .ref ((ct 0)))] [] S := by
  refine V_aln (pc := 53) dX1_readTape_53 rfl rfl ?_
  refine V_gie (pc := 54) 1 1 33 dX1_readTape_54 (FL_X1_22 rfl) rfl rfl hX.1.1 rfl ?_
  refine V_iconst (pc := 57) (v := (-1)) dX1_readTape_57 (by decide) ?_
  refine V_ceq (pc := 58) (t := 65) dX1_readTape_58 (by decide) (fun h58 => ?_) (fun h58 => ?_)
  · exact rt_65F hX hP h
  · refine V_aln (pc := 61) dX1_readTape_61 rfl rfl ?_
    refine V_cVv0 (pc := 62) (jc_X1_51 dX1_readTape_62 rfl) rfl rfl (Nat.le_of_ble_eq_true rfl) hX.1.1 ?_
    refine r_stop hX.1.1 (fun q => absurd q hP.ne) (fun _ => ?_)
    exact rt_65F hX hP h
set_option maxRecDepth 100000 in
set_option maxHeartbeats 1000000 in
theorem rt_73 {x : pX} {d : Nat} {S : pS} {Q : Option Nat → pS → Prop} {ct : Nat → Nat} {tp : Nat → Int32} {L : Nat} {S0 : pS} {key : Int32} {s : tk} {o : sps} (hX : RX S ct tp L) (hP : PRS S S0 ct tp key s o) (ho : o.length < 96) (h : ∀ a q r, a ∉ gL S → q ∉ gL (nO S a 5) → r ∉ gL (nX (nO S a 5) q o.length) → Q (some a) (mkT S a q r o.length (cntN o) key (gX S (ct 3)))) : V x (d + 730) M_X1_readTape (qr Q) (3, 196) 73 [(0, .ref ((ct 0)))] [] S := by
  refine V_new (pc := 73) (jn_X1_54 dX1_readTape_73 rfl) (Nat.le_of_ble_eq_true rfl) (Nat.le_of_ble_eq_true rfl) (fun a ha => ?_)
  have n0 : ct 0 ≠ a := fun e => ha (e ▸ hX.1.1.1)
  have k0 := hkO (j := 5) ha hX.1.1
  have e37 : gI (nO S a 5) 37 (ct 0) = key := (va_up_ne _ _ n0).trans hP.2.2.2.2.1
  have e38 : gI (nO S a 5) 38 (ct 0) = nI (cntN o) := (va_up_ne _ _ n0).trans hP.2.2.2.2.2.1
  have e40 : gI (nO S a 5) 40 (ct 0) = nI o.length := (va_up_ne _ _ n0).trans hP.2.2.2.2.2.2.1
  have r39 : gR (nO S a 5) 39 (ct 0) = some (ct 3) := (va_up_ne _ _ n0).trans hX.2.2.1.2.1
  refine V_dup (pc := 76) dX1_readTape_76 rfl ?_
  refine V_aln (pc := 77) dX1_readTape_77 rfl rfl ?_
  refine V_gie (pc := 78) 1 5 37 dX1_readTape_78 (FL_X1_56 rfl) rfl rfl k0 e37 ?_
  refine V_aln (pc := 81) dX1_readTape_81 rfl rfl ?_
  refine V_gie (pc := 82) 1 6 38 dX1_readTape_82 (FL_X1_35 rfl) rfl rfl k0 e38 ?_
  refine V_aln (pc := 85) dX1_readTape_85 rfl rfl ?_
  refine V_gr (pc := 86) 1 7 39 dX1_readTape_86 (FL_X1_18 rfl) rfl rfl k0 r39 ?_
  refine V_aln (pc := 89) dX1_readTape_89 rfl rfl ?_
  refine V_gie (pc := 90) 1 8 40 dX1_readTape_90 (FL_X1_38 rfl) rfl rfl k0 e40 ?_
  refine V_cSr (pc := 93) (jc_X1_59 dX1_readTape_93 rfl) rfl (Nat.le_of_ble_eq_true rfl) (Nat.le_of_ble_eq_true rfl) (Nat.le_of_ble_eq_true rfl) ?_
  refine j_copyOf (hkO ha hX.1.2.2.2) hX.2.1.2 ho (fun q hq => ?_)
  refine V_cIv (pc := 96) (jc_X1_65 dX1_readTape_96 rfl) rfl (Nat.le_of_ble_eq_true rfl) (Nat.le_of_ble_eq_true rfl) (Nat.le_of_ble_eq_true rfl) ?_
  refine t_init (n := cntN o) (hkX (j := o.length) hq hkO_s) (by have : cntN o ≤ o.length := List.countP_le_length; omega) (fun r hr => ?_)
  refine V_goto (pc := 99) (t := 103) dX1_readTape_99 (by decide) ?_
  refine V_aret (pc := 103) dX1_readTape_103 rfl (Or.inl ⟨_, rfl⟩) ?_
  exact h a q r ha hq hr
set_option maxRecDepth 100000 in
set_option maxHeartbeats 1000000 in
theorem rt_53Y {x : pX} {d : Nat} {S : pS} {Q : Option Nat → pS → Prop} {ct : Nat → Nat} {tp : Nat → Int32} {L : Nat} {S0 : pS} {key : Int32} {s : tk} {o : sps} (hX0 : RX S0 ct tp L) (hX : RX S ct tp L) (hk : tko L s) (hP : PRS S S0 ct tp key s o) (ho : o.length < 96) (ho2 : o.length ≤ s.1) (h1 : s.2.2 = 0 → ∀ a q r, a ∉ gL S → q ∉ gL (nO S a 5) → r ∉ gL (nX (nO S a 5) q o.length) → Q (some a) (mkT S a q r o.length (cntN o) key (gX S (ct 3)))) (h0 : ¬ s.2.2 = 0 → ∀ S2, PRF S2 S0 ct s.1 → Q none S2) : V x (d + 730) M_X1_readTape (qr Q) (3, 196) 53 [(0, .ref ((ct 0)))] [] S := by
  refine V_aln (pc := 53) dX1_readTape_53 rfl rfl ?_
  refine V_gie (pc := 54) 1 1 33 dX1_readTape_54 (FL_X1_22 rfl) rfl rfl hX.1.1 rfl ?_
  refine V_iconst (pc := 57) (v := (-1)) dX1_readTape_57 (by decide) ?_
  refine V_ceq (pc := 58) (t := 65) dX1_readTape_58 (by decide) (fun h58 => ?_) (fun h58 => ?_)
  · have t0 := (tok_e hX hk hP.2.1.2).mp h58
    refine V_aln (pc := 65) dX1_readTape_65 rfl rfl ?_
    refine V_gie (pc := 66) 1 4 36 dX1_readTape_66 (FL_X1_32 rfl) rfl rfl hX.1.1 rfl ?_
    refine V_iconst (pc := 69) (v := (-1)) dX1_readTape_69 (by decide) ?_
    refine V_cne (pc := 70) (t := 102) dX1_readTape_70 (by decide) (fun h70 => ?_) (fun h70 => ?_)
    · exact absurd hP.2.2.2.1 h70
    · exact rt_73 hX hP ho (h1 t0)
  · have t0 : ¬ s.2.2 = 0 := fun q => h58 ((tok_e hX hk hP.2.1.2).mpr q)
    refine V_aln (pc := 61) dX1_readTape_61 rfl rfl ?_
    refine V_cVv0 (pc := 62) (jc_X1_51 dX1_readTape_62 rfl) rfl rfl (Nat.le_of_ble_eq_true rfl) hX.1.1 ?_
    refine r_stopF hX hk hP ho2 (fun S5 P5 => ?_)
    exact rt_65F (hX0.f P5.1) P5 (h0 t0 S5 P5)
set_option maxRecDepth 100000 in
set_option maxHeartbeats 1000000 in
theorem r_readTape {x : pX} {d : Nat} {S : pS} {Q : Option Nat → pS → Prop} {ct : Nat → Nat} {tp : Nat → Int32} {L : Nat} (hX : RX S ct tp L) (hx : XS x) (h1 : ¬ (rdT tp L).1 < 0 → (rdT tp L).2.2.length < 96 → ∀ S2, PRS S2 S ct tp (rdT tp L).1 (rdT tp L).2.1 (rdT tp L).2.2 → ∀ a q r, a ∉ gL S2 → q ∉ gL (nO S2 a 5) → r ∉ gL (nX (nO S2 a 5) q (rdT tp L).2.2.length) → Q (some a) (mkT S2 a q r (rdT tp L).2.2.length (cntN (rdT tp L).2.2) (rdT tp L).1 (gX S2 (ct 3)))) (h0 : (rdT tp L).1 < 0 → ∀ S2, PRF S2 S ct (rdT tp L).2.1.1 → Q none S2) : PR x (d + 730) M_X1_readTape [.ref ((ct 0))] S Q := by
  refine PM_of (by decide +kernel) (Nat.le_of_ble_eq_true rfl) ?_
  show V x (d + 730) M_X1_readTape (qr Q) (3, 196) 0 [(0, .ref ((ct 0)))] [] S
  refine V_aln (pc := 0) dX1_readTape_0 rfl rfl ?_
  refine V_iconst (pc := 1) (v := (-1)) dX1_readTape_1 (by decide) ?_
  refine V_pi (pc := 2) 1 1 33 dX1_readTape_2 (FL_X1_22 rfl) rfl rfl rfl hX.1.1 ?_
  refine V_aln (pc := 5) dX1_readTape_5 rfl rfl ?_
  refine V_iconst (pc := 6) (v := 0) dX1_readTape_6 (by decide) ?_
  refine V_pi (pc := 7) 1 2 34 dX1_readTape_7 (FL_X1_26 rfl) rfl rfl rfl hX.1.1 ?_
  refine V_aln (pc := 10) dX1_readTape_10 rfl rfl ?_
  refine V_iconst (pc := 11) (v := 0) dX1_readTape_11 (by decide) ?_
  refine V_pi (pc := 12) 1 3 35 dX1_readTape_12 (FL_X1_29 rfl) rfl rfl rfl hX.1.1 ?_
  refine V_aln (pc := 15) dX1_readTape_15 rfl rfl ?_
  refine V_iconst (pc := 16) (v := (-1)) dX1_readTape_16 (by decide) ?_
  refine V_pi (pc := 17) 1 4 36 dX1_readTape_17 (FL_X1_32 rfl) rfl rfl rfl hX.1.1 ?_
  refine V_aln (pc := 20) dX1_readTape_20 rfl rfl ?_
  refine V_iconst (pc := 21) (v := 0) dX1_readTape_21 (by decide) ?_
  refine V_pi (pc := 22) 1 6 38 dX1_readTape_22 (FL_X1_35 rfl) rfl rfl rfl hX.1.1 ?_
  refine V_aln (pc := 25) dX1_readTape_25 rfl rfl ?_
  refine V_iconst (pc := 26) (v := 0) dX1_readTape_26 (by decide) ?_
  refine V_pi (pc := 27) 1 8 40 dX1_readTape_27 (FL_X1_38 rfl) rfl rfl rfl hX.1.1 ?_
  obtain ⟨S1, eS1⟩ : ∃ Z, Z = (sI (sI (sI (sI (sI (sI S 33 (ct 0) (-1)) 34 (ct 0) 0) 35 (ct 0) 0) 36 (ct 0) (-1)) 38 (ct 0) 0) 40 (ct 0) 0) := ⟨_, rfl⟩
  rw [← eS1]
  have f1 : fr (rT ct) S S1 := by rw [eS1]; exact (((((fr.rf.sI (Or.inl rfl) _ _).sI (Or.inl rfl) _ _).sI (Or.inl rfl) _ _).sI (Or.inl rfl) _ _).sI (Or.inl rfl) _ _).sI (Or.inl rfl) _ _
  have q33 : gI S1 33 (ct 0) = -1 := by rw [eS1, gI_sI, if_neg (by omega), gI_sI, if_neg (by omega), gI_sI, if_neg (by omega), gI_sI, if_neg (by omega), gI_sI, if_neg (by omega), gI_sI, if_pos ⟨rfl, rfl⟩]
  have q35 : gI S1 35 (ct 0) = 0 := by rw [eS1, gI_sI, if_neg (by omega), gI_sI, if_neg (by omega), gI_sI, if_neg (by omega), gI_sI, if_pos ⟨rfl, rfl⟩]
  have q36 : gI S1 36 (ct 0) = -1 := by rw [eS1, gI_sI, if_neg (by omega), gI_sI, if_neg (by omega), gI_sI, if_pos ⟨rfl, rfl⟩]
  have q38 : gI S1 38 (ct 0) = 0 := by rw [eS1, gI_sI, if_neg (by omega), gI_sI, if_pos ⟨rfl, rfl⟩]
  have q40 : gI S1 40 (ct 0) = 0 := by rw [eS1, gI_sI, if_pos ⟨rfl, rfl⟩]
  have hX1 := hX.f f1
  refine V_aln (pc := 30) dX1_readTape_30 rfl rfl ?_
  refine V_cVv0 (pc := 31) (jc_X1_41 dX1_readTape_31 rfl) rfl rfl (Nat.le_of_ble_eq_true rfl) hX1.1.1 ?_
  refine r_goOn hX1 (e := 0) (t := 3) (Nat.zero_le L) q35 ⟨fun q => absurd q (by rw [q33]; decide), fun q => absurd q (by decide)⟩ (fun S2 f2 T2 => ?_)
  have hX2 := hX1.f f2.r
  have n36 := (f2.2 36 (by omega)).trans q36
  have n38 := (f2.2 38 (by omega)).trans q38
  have n40 := (f2.2 40 (by omega)).trans q40
  have tk0 : tko L (nxt tp L 0 3) ∧ _ := nxt_ok tp 3 (Nat.zero_le L)
  refine V_aln (pc := 34) dX1_readTape_34 rfl rfl ?_
  refine V_cVv0 (pc := 35) (jc_X1_44 dX1_readTape_35 rfl) rfl rfl (Nat.le_of_ble_eq_true rfl) hX2.1.1 ?_
  refine r_readKey hX2 hx tk0.1 T2 n36 (fun kf y1 S3 f3 T3 e37 eo => ?_) (fun kf => ?_)
  · have hX3 := hX2.f f3
    have m36 := (eo 36 (by omega)).trans n36
    have P3 : PRS S3 S ct tp (fkey tp (nxt tp L 0 3)) (nxs tp L (nxt tp L 0 3)) [] := ⟨(f1.tr f2.r).tr f3, T3, nxt_d _ _ _ _, m36, e37, (eo 38 (by omega)).trans n38, (eo 40 (by omega)).trans n40, fun i hi => absurd hi (Nat.not_lt_zero i)⟩
    refine V_aln (pc := 38) dX1_readTape_38 rfl rfl ?_
    refine V_gie (pc := 39) 1 4 36 dX1_readTape_39 (FL_X1_32 rfl) rfl rfl hX3.1.1 m36 ?_
    refine V_iconst (pc := 42) (v := (-1)) dX1_readTape_42 (by decide) ?_
    refine V_cne (pc := 43) (t := 53) dX1_readTape_43 (by decide) (fun h => absurd h (by decide)) (fun _ => ?_)
    refine V_aln (pc := 46) dX1_readTape_46 rfl rfl ?_
    refine V_iconst (pc := 47) (v := 0) dX1_readTape_47 (by decide) ?_
    refine V_iconst (pc := 48) (v := 0) dX1_readTape_48 (by decide) ?_
    refine V_iconst (pc := 49) (v := 0) dX1_readTape_49 (by decide) ?_
    refine V_cVv0 (pc := 50) (jc_X1_47 dX1_readTape_50 rfl) rfl rfl (Nat.le_of_ble_eq_true rfl) hX3.1.1 ?_
    have nk := nxs_ok tp tk0.1
    have rk := rdP_ok tp L (fkey tp (nxt tp L 0 3)) 700 0 0 0 (nxs tp L (nxt tp L 0 3)) [] nk.1
    have l3 : 1 ≤ (nxs tp L (nxt tp L 0 3)).1 := by have := nk.2; have := tk0.1; unfold tko at this; omega
    refine ((k_all hX hx (fkey_3 kf) 700).2 0 (by decide)).1 (d + 729) 0 0 (nxs tp L (nxt tp L 0 3)) [] S3 _ nk.1 (Nat.zero_le _) (by decide) (by decide) (by unfold fuN; rw [if_pos (by decide)]; have := hX.2.2.2.1.2; omega) (by omega) P3 ⟨fun S4 r1 P4 => ?_, fun S4 r0 P4 => ?_⟩
    · have hX4 := hX.f P4.1
      have lo : (rdP tp L (fkey tp (nxt tp L 0 3)) 700 0 0 0 (nxs tp L (nxt tp L 0 3)) []).2.2.length + (nxs tp L (nxt tp L 0 3)).1 ≤ (rdP tp L (fkey tp (nxt tp L 0 3)) 700 0 0 0 (nxs tp L (nxt tp L 0 3)) []).2.1.1 := by have := rk.2.2; have q0 : ([] : sps).length = 0 := rfl; omega
      have lo2 : (rdP tp L (fkey tp (nxt tp L 0 3)) 700 0 0 0 (nxs tp L (nxt tp L 0 3)) []).2.1.1 ≤ 96 := by have := rk.1; unfold tko at this; have := hX.2.2.2.1.2; omega
      refine rt_53Y hX hX4 rk.1 P4 (by omega) (by omega) (fun t0 => ?_) (fun t0 S5 P5 => ?_)
      · have er := rdT_y kf r1 t0
        rw [er] at h1
        exact h1 kf (by dsimp only; omega) S4 P4
      · have er := rdT_n kf (fun q => t0 q.2)
        exact h0 (by rw [er]; exact (by decide : (-1 : Int32) < 0)) _ (by rw [er]; exact P5)
    · have hX4 := hX.f P4.1
      have er := rdT_n kf (fun q => absurd q.1 (by rw [r0]; decide))
      have neg : (rdT tp L).1 < 0 := by rw [er]; exact (by decide : (-1 : Int32) < 0)
      exact rt_53F hX4 P4 (h0 neg _ (by rw [er]; exact P4))
  · have P4 : PRF (sI S2 36 (ct 0) (nI (nxt tp L 0 3).1)) S ct (nxt tp L 0 3).1 := ⟨(f1.tr f2.r).sI (Or.inl rfl) _ _, ⟨by rw [gI_sI, if_pos ⟨rfl, rfl⟩], by have := tk0.1.1; have := tk0.1.2.1; have := hX.2.2.2.1.2; omega⟩, 0, by decide, by rw [gI_sI, if_neg (by omega)]; exact n40⟩
    have hX4 := hX.f P4.1
    have er := rdT_k kf
    have neg : (rdT tp L).1 < 0 := by rw [er]; exact (by decide : (-1 : Int32) < 0)
    have k4 : Q none _ := h0 neg _ (by rw [er]; exact P4)
    refine V_aln (pc := 38) dX1_readTape_38 rfl rfl ?_
    refine V_gie (pc := 39) 1 4 36 dX1_readTape_39 (FL_X1_32 rfl) rfl rfl hX4.1.1 rfl ?_
    refine V_iconst (pc := 42) (v := (-1)) dX1_readTape_42 (by decide) ?_
    refine V_cne (pc := 43) (t := 53) dX1_readTape_43 (by decide) (fun h43 => ?_) (fun h43 => ?_)
    · exact rt_53F hX4 P4 k4
    · exact absurd h43 P4.ne
