/-! ===== the class's reader: going on; words; numbers; names ===== -/
set_option maxRecDepth 100000 in
set_option maxHeartbeats 1000000 in
theorem r_go_154 {x : pX} {d : Nat} {S : pS} {b : Nat × Nat} {Q : pS → Prop} {ct : Nat → Nat} {tp : Nat → Int32} {L : Nat} (hX : RX S ct tp L) {w e p : Nat} (hw : w ≤ 1) (he : e ≤ 96) (hp : p ≤ 96) (h4 : gI S 34 (ct 0) = nI p) (h1 : (gI S 33 (ct 0) = -2 ∨ gI S 33 (ct 0) = -3) → w = 1 → p = e → Q (sI S 33 (ct 0) (-4))) (h0 : ¬ ((gI S 33 (ct 0) = -2 ∨ gI S 33 (ct 0) = -3) ∧ w = 1 ∧ p = e) → Q S) : V x (d + 3) M_X1_goOn (qv Q) b 154 [(0, .ref ((ct 0))), (1, .int (nI w)), (2, .int (nI e))] [] S := by
  refine V_aln (pc := 154) dX1_goOn_154 rfl rfl ?_
  refine V_gie (pc := 155) 1 1 33 dX1_goOn_155 (FL_X1_22 rfl) rfl rfl hX.1.1 rfl ?_
  refine V_bipush (pc := 158) (v := (-2)) dX1_goOn_158 (by decide) ?_
  refine V_ceq (pc := 160) (t := 172) dX1_goOn_160 (by decide) (fun h160 => ?_) (fun h160 => ?_)
  · have k1 : gI S 33 (ct 0) = -2 ∨ gI S 33 (ct 0) = -3 := Or.inl h160
    refine V_iconst (pc := 172) (v := 1) dX1_goOn_172 (by decide) ?_
    refine V_goto (pc := 173) (t := 177) dX1_goOn_173 (by decide) ?_
    refine V_is (pc := 177) (fun y => [(0, .ref ((ct 0))), (1, .int (nI w)), (2, .int (nI e)), (4, .int y)]) dX1_goOn_177 (by decide) (fun _ => rfl) (fun y177 ey177 => ?_)
    obtain rfl : y177 = nI 1 := ey177
    refine V_il (pc := 179) dX1_goOn_179 rfl ?_
    refine V_eq (pc := 181) (t := 202) dX1_goOn_181 (by decide) (fun h => absurd h (by decide)) (fun _ => ?_)
    refine V_iln (pc := 184) dX1_goOn_184 rfl rfl ?_
    refine V_eq (pc := 185) (t := 202) dX1_goOn_185 (by decide) (fun h185 => ?_) (fun h185 => ?_)
    · have q0 : ¬ ((gI S 33 (ct 0) = -2 ∨ gI S 33 (ct 0) = -3) ∧ w = 1 ∧ p = e) := fun q => by have := (nI_eq (b := 0) (by omega) (by decide)).mp h185; omega
      refine V_ret (pc := 202) dX1_goOn_202 rfl ?_
      first | exact h1 k1 w1 pe | exact h0 q0
    · have w1 : w = 1 := by rcases (show w = 0 ∨ w = 1 by omega) with q | q; exact absurd (by rw [q]; rfl) h185; exact q
      refine V_aln (pc := 188) dX1_goOn_188 rfl rfl ?_
      refine V_gie (pc := 189) 1 2 34 dX1_goOn_189 (FL_X1_26 rfl) rfl rfl hX.1.1 rfl ?_
      refine V_iln (pc := 192) dX1_goOn_192 rfl rfl ?_
      refine V_cne (pc := 193) (t := 202) dX1_goOn_193 (by decide) (fun h193 => ?_) (fun h193 => ?_)
      · have q0 : ¬ ((gI S 33 (ct 0) = -2 ∨ gI S 33 (ct 0) = -3) ∧ w = 1 ∧ p = e) := fun q => h193 (by rw [h4, q.2.2])
        refine V_ret (pc := 202) dX1_goOn_202 rfl ?_
        first | exact h1 k1 w1 pe | exact h0 q0
      · have pe : p = e := (nI_eq (by omega) (by omega)).mp (h4.symm.trans h193)
        refine V_aln (pc := 196) dX1_goOn_196 rfl rfl ?_
        refine V_bipush (pc := 197) (v := (-4)) dX1_goOn_197 (by decide) ?_
        refine V_pi (pc := 199) 1 1 33 dX1_goOn_199 (FL_X1_22 rfl) rfl rfl rfl hX.1.1 ?_
        refine V_ret (pc := 202) dX1_goOn_202 rfl ?_
        first | exact h1 k1 w1 pe | exact h0 q0
  · refine V_aln (pc := 163) dX1_goOn_163 rfl rfl ?_
    refine V_gie (pc := 164) 1 1 33 dX1_goOn_164 (FL_X1_22 rfl) rfl rfl hX.1.1 rfl ?_
    refine V_bipush (pc := 167) (v := (-3)) dX1_goOn_167 (by decide) ?_
    refine V_cne (pc := 169) (t := 176) dX1_goOn_169 (by decide) (fun h169 => ?_) (fun h169 => ?_)
    · have q0 : ¬ ((gI S 33 (ct 0) = -2 ∨ gI S 33 (ct 0) = -3) ∧ w = 1 ∧ p = e) := fun q => q.1.elim h160 h169
      refine V_iconst (pc := 176) (v := 0) dX1_goOn_176 (by decide) ?_
      refine V_is (pc := 177) (fun y => [(0, .ref ((ct 0))), (1, .int (nI w)), (2, .int (nI e)), (4, .int y)]) dX1_goOn_177 (by decide) (fun _ => rfl) (fun y177 ey177 => ?_)
      obtain rfl : y177 = nI 0 := ey177
      refine V_il (pc := 179) dX1_goOn_179 rfl ?_
      refine V_eq (pc := 181) (t := 202) dX1_goOn_181 (by decide) (fun _ => ?_) (fun h => absurd h (by decide))
      refine V_ret (pc := 202) dX1_goOn_202 rfl ?_
      first | exact h1 k1 w1 pe | exact h0 q0
    · have k1 : gI S 33 (ct 0) = -2 ∨ gI S 33 (ct 0) = -3 := Or.inr h169
      refine V_iconst (pc := 172) (v := 1) dX1_goOn_172 (by decide) ?_
      refine V_goto (pc := 173) (t := 177) dX1_goOn_173 (by decide) ?_
      refine V_is (pc := 177) (fun y => [(0, .ref ((ct 0))), (1, .int (nI w)), (2, .int (nI e)), (4, .int y)]) dX1_goOn_177 (by decide) (fun _ => rfl) (fun y177 ey177 => ?_)
      obtain rfl : y177 = nI 1 := ey177
      refine V_il (pc := 179) dX1_goOn_179 rfl ?_
      refine V_eq (pc := 181) (t := 202) dX1_goOn_181 (by decide) (fun h => absurd h (by decide)) (fun _ => ?_)
      refine V_iln (pc := 184) dX1_goOn_184 rfl rfl ?_
      refine V_eq (pc := 185) (t := 202) dX1_goOn_185 (by decide) (fun h185 => ?_) (fun h185 => ?_)
      · have q0 : ¬ ((gI S 33 (ct 0) = -2 ∨ gI S 33 (ct 0) = -3) ∧ w = 1 ∧ p = e) := fun q => by have := (nI_eq (b := 0) (by omega) (by decide)).mp h185; omega
        refine V_ret (pc := 202) dX1_goOn_202 rfl ?_
        first | exact h1 k1 w1 pe | exact h0 q0
      · have w1 : w = 1 := by rcases (show w = 0 ∨ w = 1 by omega) with q | q; exact absurd (by rw [q]; rfl) h185; exact q
        refine V_aln (pc := 188) dX1_goOn_188 rfl rfl ?_
        refine V_gie (pc := 189) 1 2 34 dX1_goOn_189 (FL_X1_26 rfl) rfl rfl hX.1.1 rfl ?_
        refine V_iln (pc := 192) dX1_goOn_192 rfl rfl ?_
        refine V_cne (pc := 193) (t := 202) dX1_goOn_193 (by decide) (fun h193 => ?_) (fun h193 => ?_)
        · have q0 : ¬ ((gI S 33 (ct 0) = -2 ∨ gI S 33 (ct 0) = -3) ∧ w = 1 ∧ p = e) := fun q => h193 (by rw [h4, q.2.2])
          refine V_ret (pc := 202) dX1_goOn_202 rfl ?_
          first | exact h1 k1 w1 pe | exact h0 q0
        · have pe : p = e := (nI_eq (by omega) (by omega)).mp (h4.symm.trans h193)
          refine V_aln (pc := 196) dX1_goOn_196 rfl rfl ?_
          refine V_bipush (pc := 197) (v := (-4)) dX1_goOn_197 (by decide) ?_
          refine V_pi (pc := 199) 1 1 33 dX1_goOn_199 (FL_X1_22 rfl) rfl rfl rfl hX.1.1 ?_
          refine V_ret (pc := 202) dX1_goOn_202 rfl ?_
          first | exact h1 k1 w1 pe | exact h0 q0
theorem nI_m {b : Nat} (hb : b < 256) {k : Nat} (hk : 0 < k) (hk2 : k < 100) : ¬ nI b = -(nI k) := fun q => by
  have e := congrArg Int32.toInt q
  rw [nI_toInt (by omega), Int32.toInt_neg, nI_toInt (by omega)] at e
  have : (-(k : Int)).bmod (2 ^ 32) = -(k : Int) := Int.bmod_eq_of_le (by omega) (by omega)
  rw [this] at e
  omega
theorem by_neg {b : Nat} (hb : b < 256) : ¬ (nI b = -2 ∨ nI b = -3) := fun q => q.elim (fun w => nI_m hb (k := 2) (by decide) (by decide) w) (fun w => nI_m hb (k := 3) (by decide) (by decide) w)
set_option maxRecDepth 100000 in
set_option maxHeartbeats 1000000 in
theorem r_go_24 {x : pX} {d : Nat} {S : pS} {b : Nat × Nat} {Q : pS → Prop} {ct : Nat → Nat} {tp : Nat → Int32} {L : Nat} (hX : RX S ct tp L) {e t p w : Nat} {s : tk} (he : e ≤ L) (h5 : gI S 35 (ct 0) = nI e) (hp : eor tp 32 32 (L - e) e = p) (hw : (w = 1 ∧ (t = 1 ∨ t = 2)) ∨ (w = 0 ∧ ¬ (t = 1 ∨ t = 2))) (hs : nxp tp L e t p = s) (h : ∀ S2, fg ct S S2 → RT S2 ct tp s → Q S2)  : V x (d + 3) M_X1_goOn (qv Q) b 24 [(0, .ref ((ct 0))), (1, .int (nI w))] [] S := by
  refine V_aln (pc := 24) dX1_goOn_24 rfl rfl ?_
  refine V_gie (pc := 25) 1 3 35 dX1_goOn_25 (FL_X1_29 rfl) rfl rfl hX.1.1 rfl ?_
  refine V_isn (pc := 28) (fun y => [(0, .ref ((ct 0))), (1, .int (nI w)), (2, .int y)]) dX1_goOn_28 rfl (by decide) (fun _ => rfl) (fun y28 ey28 => ?_)
  obtain rfl : y28 = nI e := by rw [ey28]; exact h5
  refine V_aln (pc := 29) dX1_goOn_29 rfl rfl ?_
  refine V_aln (pc := 30) dX1_goOn_30 rfl rfl ?_
  refine V_iln (pc := 31) dX1_goOn_31 rfl rfl ?_
  refine V_bipush (pc := 32) (v := 32) dX1_goOn_32 (by decide) ?_
  refine V_bipush (pc := 34) (v := 32) dX1_goOn_34 (by decide) ?_
  refine V_cVi0 (pc := 36) (jc_X1_74 dX1_goOn_36 rfl) rfl rfl (Nat.le_of_ble_eq_true rfl) hX.1.1 ?_
  have h96 := hX.2.2.2.1.2
  have ge := eor_ge tp 32 32 (L - e) e
  have le := eor_le tp 32 32 (L - e) e
  rw [hp] at ge le
  refine r_eor hX 32 32 he (by decide) (by decide) ?_
  rw [hp]
  refine V_pi (pc := 39) 1 2 34 dX1_goOn_39 (FL_X1_26 rfl) rfl rfl rfl hX.1.1 ?_
  refine V_aln (pc := 42) dX1_goOn_42 rfl rfl ?_
  refine V_gr (pc := 43) 1 0 32 dX1_goOn_43 (FL_X1_12 rfl) rfl rfl hX.1.1 hX.2.2.1.1 ?_
  refine V_aln (pc := 46) dX1_goOn_46 rfl rfl ?_
  refine V_gi (pc := 47) 1 2 34 dX1_goOn_47 (FL_X1_26 rfl) rfl rfl hX.1.1 ?_
  refine V_cVi0 (pc := 50) (jc_X1_78 dX1_goOn_50 rfl) rfl rfl (Nat.le_of_ble_eq_true rfl) hX.1.2.1 ?_
  have hX1 := hX.f (fg.rf.up (ct := ct) (S := S) (f := 34) (by omega) (nI p)).r
  rw [gI_sI, if_pos ⟨rfl, rfl⟩]
  refine t_byteAt hX1.1.2.1 hX1.2.2.1.2.2 hX1.1.2.2.1 hX1.2.1.1 hX1.2.2.2.1.1 h96 (fun j hj ej tj => ?_) (fun j0 => ?_)
  · have e2 : p = j := (nI_eq (by omega) (by omega)).mp ej
    subst e2
    rw [hX1.2.2.2.2.1 p (by omega)]
    obtain ⟨b, hb, eb⟩ := hX.2.2.2.2.2.1 p (by omega)
    refine V_isn (pc := 53) (fun y => [(0, .ref ((ct 0))), (1, .int (nI w)), (2, .int (nI e)), (3, .int y)]) dX1_goOn_53 rfl (by decide) (fun _ => rfl) (fun y53 ey53 => ?_)
    refine V_iln (pc := 54) dX1_goOn_54 rfl rfl ?_
    refine V_bipush (pc := 55) (v := 97) dX1_goOn_55 (by decide) ?_
    refine V_bipush (pc := 57) (v := 122) dX1_goOn_57 (by decide) ?_
    refine V_cSi0 (pc := 59) (jc_X1_82 dX1_goOn_59 rfl) rfl rfl (Nat.le_of_ble_eq_true rfl) ?_
    refine c_within 97 122 (by decide) (by decide) (fun a1 a2 => ?_) (fun a0 => ?_)
    · rw [ey53] at a1 a2
      refine V_eq (pc := 62) (t := 90) dX1_goOn_62 (by decide) (fun h => absurd h (by decide)) (fun _ => ?_)
      refine V_aln (pc := 65) dX1_goOn_65 rfl rfl ?_
      refine V_bipush (pc := 66) (v := (-2)) dX1_goOn_66 (by decide) ?_
      refine V_pi (pc := 68) 1 1 33 dX1_goOn_68 (FL_X1_22 rfl) rfl rfl rfl hX.1.1 ?_
      refine V_aln (pc := 71) dX1_goOn_71 rfl rfl ?_
      refine V_aln (pc := 72) dX1_goOn_72 rfl rfl ?_
      refine V_aln (pc := 73) dX1_goOn_73 rfl rfl ?_
      refine V_gi (pc := 74) 1 2 34 dX1_goOn_74 (FL_X1_26 rfl) rfl rfl hX.1.1 ?_
      refine V_bipush (pc := 77) (v := 97) dX1_goOn_77 (by decide) ?_
      refine V_bipush (pc := 79) (v := 122) dX1_goOn_79 (by decide) ?_
      refine V_cVi0 (pc := 81) (jc_X1_74 dX1_goOn_81 rfl) rfl rfl (Nat.le_of_ble_eq_true rfl) hX.1.1 ?_
      have fA : fg ct S (sI (sI S 34 (ct 0) (nI p)) 33 (ct 0) (-2)) := (fg.rf.up (by omega) (nI p)).up (by omega) (-2)
      have hX2 := hX.f fA.r
      rw [gI_sI, if_neg (by omega), gI_sI, if_pos ⟨rfl, rfl⟩]
      refine r_eor hX2 97 122 (by omega) (by decide) (by decide) ?_
      refine V_pi (pc := 84) 1 3 35 dX1_goOn_84 (FL_X1_29 rfl) rfl rfl rfl hX.1.1 ?_
      refine V_goto (pc := 87) (t := 154) dX1_goOn_87 (by decide) ?_
      refine V_lp [0, 1, 2] (ls' := [(0, .ref ((ct 0))), (1, .int (nI w)), (2, .int (nI e))]) rfl ?_
      have fB : fg ct S (sI (sI (sI S 34 (ct 0) (nI p)) 33 (ct 0) (-2)) 35 (ct 0) (nI (eor tp 97 122 (L - p) p))) := fA.up (by omega) _
      have e3 : gI (sI (sI (sI S 34 (ct 0) (nI p)) 33 (ct 0) (-2)) 35 (ct 0) (nI (eor tp 97 122 (L - p) p))) 33 (ct 0) = -2 := by rw [gI_sI, if_neg (by omega), gI_sI, if_pos ⟨rfl, rfl⟩]
      have e4 : gI (sI (sI (sI S 34 (ct 0) (nI p)) 33 (ct 0) (-2)) 35 (ct 0) (nI (eor tp 97 122 (L - p) p))) 34 (ct 0) = nI p := by rw [gI_sI, if_neg (by omega), gI_sI, if_neg (by omega), gI_sI, if_pos ⟨rfl, rfl⟩]
      have e5 : gI (sI (sI (sI S 34 (ct 0) (nI p)) 33 (ct 0) (-2)) 35 (ct 0) (nI (eor tp 97 122 (L - p) p))) 35 (ct 0) = nI (eor tp 97 122 (L - p) p) := by rw [gI_sI, if_pos ⟨rfl, rfl⟩]
      have es : s = (p, eor tp 97 122 (L - p) p, if (t = 1 ∨ t = 2) ∧ p = e then 4 else 1) := by rw [← hs]; unfold nxp; rw [if_neg (by omega), if_pos ⟨a1, a2⟩]
      refine r_go_154 (p := p) (hX.f fB.r) (by omega) (by omega) (by omega) e4 (fun k1 k2 k3 => h _ (fB.up (by omega) (-4)) ?_) (fun k0 => h _ fB ?_)
      · have tg : (t = 1 ∨ t = 2) ∧ p = e := ⟨by omega, k3⟩
        rw [es, if_pos tg]
        exact ⟨by rw [gI_sI, if_neg (by omega)]; exact e4, Or.inr (Or.inr (Or.inr (Or.inr ⟨rfl, Or.inl (by rw [gI_sI, if_pos ⟨rfl, rfl⟩])⟩)))⟩
      · have tg : ¬ ((t = 1 ∨ t = 2) ∧ p = e) := fun q => k0 ⟨Or.inl e3, by omega, q.2⟩
        rw [es, if_neg tg]
        exact ⟨e4, Or.inr (Or.inl ⟨rfl, e3, e5⟩)⟩
    · rw [ey53] at a0
      refine V_eq (pc := 62) (t := 90) dX1_goOn_62 (by decide) (fun _ => ?_) (fun h => absurd h (by decide))
      refine V_iln (pc := 90) dX1_goOn_90 rfl rfl ?_
      refine V_bipush (pc := 91) (v := 48) dX1_goOn_91 (by decide) ?_
      refine V_bipush (pc := 93) (v := 57) dX1_goOn_93 (by decide) ?_
      refine V_cSi0 (pc := 95) (jc_X1_82 dX1_goOn_95 rfl) rfl rfl (Nat.le_of_ble_eq_true rfl) ?_
      refine c_within 48 57 (by decide) (by decide) (fun b1 b2 => ?_) (fun b0 => ?_)
      · rw [ey53] at b1 b2
        refine V_eq (pc := 98) (t := 126) dX1_goOn_98 (by decide) (fun h => absurd h (by decide)) (fun _ => ?_)
        refine V_aln (pc := 101) dX1_goOn_101 rfl rfl ?_
        refine V_bipush (pc := 102) (v := (-3)) dX1_goOn_102 (by decide) ?_
        refine V_pi (pc := 104) 1 1 33 dX1_goOn_104 (FL_X1_22 rfl) rfl rfl rfl hX.1.1 ?_
        refine V_aln (pc := 107) dX1_goOn_107 rfl rfl ?_
        refine V_aln (pc := 108) dX1_goOn_108 rfl rfl ?_
        refine V_aln (pc := 109) dX1_goOn_109 rfl rfl ?_
        refine V_gi (pc := 110) 1 2 34 dX1_goOn_110 (FL_X1_26 rfl) rfl rfl hX.1.1 ?_
        refine V_bipush (pc := 113) (v := 48) dX1_goOn_113 (by decide) ?_
        refine V_bipush (pc := 115) (v := 57) dX1_goOn_115 (by decide) ?_
        refine V_cVi0 (pc := 117) (jc_X1_74 dX1_goOn_117 rfl) rfl rfl (Nat.le_of_ble_eq_true rfl) hX.1.1 ?_
        have fA : fg ct S (sI (sI S 34 (ct 0) (nI p)) 33 (ct 0) (-3)) := (fg.rf.up (by omega) (nI p)).up (by omega) (-3)
        have hX2 := hX.f fA.r
        rw [gI_sI, if_neg (by omega), gI_sI, if_pos ⟨rfl, rfl⟩]
        refine r_eor hX2 48 57 (by omega) (by decide) (by decide) ?_
        refine V_pi (pc := 120) 1 3 35 dX1_goOn_120 (FL_X1_29 rfl) rfl rfl rfl hX.1.1 ?_
        refine V_goto (pc := 123) (t := 154) dX1_goOn_123 (by decide) ?_
        refine V_lp [0, 1, 2] (ls' := [(0, .ref ((ct 0))), (1, .int (nI w)), (2, .int (nI e))]) rfl ?_
        have fB : fg ct S (sI (sI (sI S 34 (ct 0) (nI p)) 33 (ct 0) (-3)) 35 (ct 0) (nI (eor tp 48 57 (L - p) p))) := fA.up (by omega) _
        have e3 : gI (sI (sI (sI S 34 (ct 0) (nI p)) 33 (ct 0) (-3)) 35 (ct 0) (nI (eor tp 48 57 (L - p) p))) 33 (ct 0) = -3 := by rw [gI_sI, if_neg (by omega), gI_sI, if_pos ⟨rfl, rfl⟩]
        have e4 : gI (sI (sI (sI S 34 (ct 0) (nI p)) 33 (ct 0) (-3)) 35 (ct 0) (nI (eor tp 48 57 (L - p) p))) 34 (ct 0) = nI p := by rw [gI_sI, if_neg (by omega), gI_sI, if_neg (by omega), gI_sI, if_pos ⟨rfl, rfl⟩]
        have e5 : gI (sI (sI (sI S 34 (ct 0) (nI p)) 33 (ct 0) (-3)) 35 (ct 0) (nI (eor tp 48 57 (L - p) p))) 35 (ct 0) = nI (eor tp 48 57 (L - p) p) := by rw [gI_sI, if_pos ⟨rfl, rfl⟩]
        have es : s = (p, eor tp 48 57 (L - p) p, if ((t = 1 ∨ t = 2) ∧ p = e) ∨ 4 < eor tp 48 57 (L - p) p - p then 4 else 2) := by rw [← hs]; unfold nxp; rw [if_neg (by omega), if_neg a0, if_pos ⟨b1, b2⟩]
        refine r_go_154 (p := p) (hX.f fB.r) (by omega) (by omega) (by omega) e4 (fun k1 k2 k3 => h _ (fB.up (by omega) (-4)) ?_) (fun k0 => h _ fB ?_)
        · have tg : (t = 1 ∨ t = 2) ∧ p = e := ⟨by omega, k3⟩
          rw [es, if_pos (Or.inl tg)]
          exact ⟨by rw [gI_sI, if_neg (by omega)]; exact e4, Or.inr (Or.inr (Or.inr (Or.inr ⟨rfl, Or.inl (by rw [gI_sI, if_pos ⟨rfl, rfl⟩])⟩)))⟩
        · have tg : ¬ ((t = 1 ∨ t = 2) ∧ p = e) := fun q => k0 ⟨Or.inr e3, by omega, q.2⟩
          by_cases q : 4 < eor tp 48 57 (L - p) p - p
          · rw [es, if_pos (Or.inr q)]
            exact ⟨e4, Or.inr (Or.inr (Or.inr (Or.inr ⟨rfl, Or.inr ⟨e3, e5, q⟩⟩)))⟩
          · rw [es, if_neg (fun w => w.elim tg q)]
            exact ⟨e4, Or.inr (Or.inr (Or.inl ⟨rfl, e3, e5⟩))⟩
      · rw [ey53] at b0
        refine V_eq (pc := 98) (t := 126) dX1_goOn_98 (by decide) (fun _ => ?_) (fun h => absurd h (by decide))
        refine V_iln (pc := 126) dX1_goOn_126 rfl rfl ?_
        refine V_iconst (pc := 127) (v := (-1)) dX1_goOn_127 (by decide) ?_
        refine V_cne (pc := 128) (t := 139) dX1_goOn_128 (by decide) (fun h128 => ?_) (fun h128 => ?_)
        · refine V_aln (pc := 139) dX1_goOn_139 rfl rfl ?_
          refine V_iln (pc := 140) dX1_goOn_140 rfl rfl ?_
          refine V_pi (pc := 141) 1 1 33 dX1_goOn_141 (FL_X1_22 rfl) rfl rfl rfl hX.1.1 ?_
          refine V_aln (pc := 144) dX1_goOn_144 rfl rfl ?_
          refine V_aln (pc := 145) dX1_goOn_145 rfl rfl ?_
          refine V_gi (pc := 146) 1 2 34 dX1_goOn_146 (FL_X1_26 rfl) rfl rfl hX.1.1 ?_
          refine V_iconst (pc := 149) (v := 1) dX1_goOn_149 (by decide) ?_
          refine V_iadd (pc := 150) dX1_goOn_150 ?_
          refine V_pi (pc := 151) 1 3 35 dX1_goOn_151 (FL_X1_29 rfl) rfl rfl rfl hX.1.1 ?_
          rw [gI_sI, if_neg (by omega), gI_sI, if_pos ⟨rfl, rfl⟩, nI_1, ey53]
          refine V_lp [0, 1, 2] (ls' := [(0, .ref ((ct 0))), (1, .int (nI w)), (2, .int (nI e))]) rfl ?_
          have fB : fg ct S (sI (sI (sI S 34 (ct 0) (nI p)) 33 (ct 0) (tp p)) 35 (ct 0) (nI (p + 1))) := ((fg.rf.up (by omega) (nI p)).up (by omega) (tp p)).up (by omega) (nI (p + 1))
          have e3 : gI (sI (sI (sI S 34 (ct 0) (nI p)) 33 (ct 0) (tp p)) 35 (ct 0) (nI (p + 1))) 33 (ct 0) = tp p := by rw [gI_sI, if_neg (by omega), gI_sI, if_pos ⟨rfl, rfl⟩]
          have e4 : gI (sI (sI (sI S 34 (ct 0) (nI p)) 33 (ct 0) (tp p)) 35 (ct 0) (nI (p + 1))) 34 (ct 0) = nI p := by rw [gI_sI, if_neg (by omega), gI_sI, if_neg (by omega), gI_sI, if_pos ⟨rfl, rfl⟩]
          have e5 : gI (sI (sI (sI S 34 (ct 0) (nI p)) 33 (ct 0) (tp p)) 35 (ct 0) (nI (p + 1))) 35 (ct 0) = nI (p + 1) := by rw [gI_sI, if_pos ⟨rfl, rfl⟩]
          have es : s = (p, p + 1, 3) := by rw [← hs]; unfold nxp; rw [if_neg (by omega), if_neg a0, if_neg b0]
          refine r_go_154 (p := p) (hX.f fB.r) (by omega) (by omega) (by omega) e4 (fun k1 k2 k3 => absurd k1 (by rw [e3, eb]; exact (by_neg hb))) (fun k0 => h _ fB ?_)
          rw [es]
          exact ⟨e4, Or.inr (Or.inr (Or.inr (Or.inl ⟨rfl, e3, e5⟩)))⟩
        · exact absurd (ey53.symm.trans h128) (by rw [eb]; exact nI_m hb (k := 1) (by decide) (by decide))
  · have pL : p = L := by rcases (show p < L ∨ p = L by omega) with q | q; exact absurd ⟨by rw [nI_toInt (by omega)]; omega, by rw [nI_toInt (by omega)]; omega⟩ j0; exact q
    refine V_isn (pc := 53) (fun y => [(0, .ref ((ct 0))), (1, .int (nI w)), (2, .int (nI e)), (3, .int y)]) dX1_goOn_53 rfl (by decide) (fun _ => rfl) (fun y53 ey53 => ?_)
    refine V_iln (pc := 54) dX1_goOn_54 rfl rfl ?_
    refine V_bipush (pc := 55) (v := 97) dX1_goOn_55 (by decide) ?_
    refine V_bipush (pc := 57) (v := 122) dX1_goOn_57 (by decide) ?_
    refine V_cSi0 (pc := 59) (jc_X1_82 dX1_goOn_59 rfl) rfl rfl (Nat.le_of_ble_eq_true rfl) ?_
    refine c_within 97 122 (by decide) (by decide) (fun a1 a2 => ?_) (fun a0 => ?_)
    · exact absurd a1 (by rw [ey53]; decide)
    · refine V_eq (pc := 62) (t := 90) dX1_goOn_62 (by decide) (fun _ => ?_) (fun h => absurd h (by decide))
      refine V_iln (pc := 90) dX1_goOn_90 rfl rfl ?_
      refine V_bipush (pc := 91) (v := 48) dX1_goOn_91 (by decide) ?_
      refine V_bipush (pc := 93) (v := 57) dX1_goOn_93 (by decide) ?_
      refine V_cSi0 (pc := 95) (jc_X1_82 dX1_goOn_95 rfl) rfl rfl (Nat.le_of_ble_eq_true rfl) ?_
      refine c_within 48 57 (by decide) (by decide) (fun b1 b2 => ?_) (fun b0 => ?_)
      · exact absurd b1 (by rw [ey53]; decide)
      · refine V_eq (pc := 98) (t := 126) dX1_goOn_98 (by decide) (fun _ => ?_) (fun h => absurd h (by decide))
        refine V_iln (pc := 126) dX1_goOn_126 rfl rfl ?_
        refine V_iconst (pc := 127) (v := (-1)) dX1_goOn_127 (by decide) ?_
        refine V_cne (pc := 128) (t := 139) dX1_goOn_128 (by decide) (fun h128 => ?_) (fun h128 => ?_)
        · exact absurd ey53 h128
        · refine V_aln (pc := 131) dX1_goOn_131 rfl rfl ?_
          refine V_iconst (pc := 132) (v := (-1)) dX1_goOn_132 (by decide) ?_
          refine V_pi (pc := 133) 1 1 33 dX1_goOn_133 (FL_X1_22 rfl) rfl rfl rfl hX.1.1 ?_
          refine V_goto (pc := 136) (t := 154) dX1_goOn_136 (by decide) ?_
          refine V_lp [0, 1, 2] (ls' := [(0, .ref ((ct 0))), (1, .int (nI w)), (2, .int (nI e))]) rfl ?_
          have fB : fg ct S (sI (sI S 34 (ct 0) (nI p)) 33 (ct 0) (-1)) := (fg.rf.up (by omega) (nI p)).up (by omega) (-1)
          have e3 : gI (sI (sI S 34 (ct 0) (nI p)) 33 (ct 0) (-1)) 33 (ct 0) = -1 := by rw [gI_sI, if_pos ⟨rfl, rfl⟩]
          have e4 : gI (sI (sI S 34 (ct 0) (nI p)) 33 (ct 0) (-1)) 34 (ct 0) = nI p := by rw [gI_sI, if_neg (by omega), gI_sI, if_pos ⟨rfl, rfl⟩]
          have es : s = (L, L, 0) := by rw [← hs]; unfold nxp; rw [if_pos (by omega)]
          refine r_go_154 (p := p) (hX.f fB.r) (by omega) (by omega) (by omega) e4 (fun k1 k2 k3 => absurd k1 (by rw [e3]; decide)) (fun k0 => h _ fB ?_)
          rw [es]
          exact ⟨by rw [e4]; exact congrArg nI (show p = L by omega), Or.inl ⟨rfl, e3⟩⟩
set_option maxRecDepth 100000 in
set_option maxHeartbeats 1000000 in
theorem r_goOn {x : pX} {d : Nat} {S : pS} {Q : pS → Prop} {ct : Nat → Nat} {tp : Nat → Int32} {L : Nat} (hX : RX S ct tp L) {e t : Nat} (he : e ≤ L) (h5 : gI S 35 (ct 0) = nI e) (hb : (gI S 33 (ct 0) = -2 ∨ gI S 33 (ct 0) = -3) ↔ (t = 1 ∨ t = 2)) (h : ∀ S2, fg ct S S2 → RT S2 ct tp (nxt tp L e t) → Q S2) : PV x (d + 3) M_X1_goOn [.ref ((ct 0))] S Q := by
  refine PM_of (by decide +kernel) (Nat.le_of_ble_eq_true rfl) ?_
  show V x (d + 3) M_X1_goOn (qv Q) (0, 0) 0 [(0, .ref ((ct 0)))] [] S
  refine V_aln (pc := 0) dX1_goOn_0 rfl rfl ?_
  refine V_gie (pc := 1) 1 1 33 dX1_goOn_1 (FL_X1_22 rfl) rfl rfl hX.1.1 rfl ?_
  refine V_bipush (pc := 4) (v := (-2)) dX1_goOn_4 (by decide) ?_
  refine V_ceq (pc := 6) (t := 18) dX1_goOn_6 (by decide) (fun h6 => ?_) (fun h6 => ?_)
  · have k1 := hb.mp (Or.inl h6)
    refine V_iconst (pc := 18) (v := 1) dX1_goOn_18 (by decide) ?_
    refine V_goto (pc := 19) (t := 23) dX1_goOn_19 (by decide) ?_
    refine V_isn (pc := 23) (fun y => [(0, .ref ((ct 0))), (1, .int y)]) dX1_goOn_23 rfl (by decide) (fun _ => rfl) (fun y23 ey23 => ?_)
    obtain rfl : y23 = nI 1 := ey23
    exact r_go_24 hX he h5 rfl (Or.inl ⟨rfl, k1⟩) rfl h
  · refine V_aln (pc := 9) dX1_goOn_9 rfl rfl ?_
    refine V_gie (pc := 10) 1 1 33 dX1_goOn_10 (FL_X1_22 rfl) rfl rfl hX.1.1 rfl ?_
    refine V_bipush (pc := 13) (v := (-3)) dX1_goOn_13 (by decide) ?_
    refine V_cne (pc := 15) (t := 22) dX1_goOn_15 (by decide) (fun h15 => ?_) (fun h15 => ?_)
    · have k0 : ¬ (t = 1 ∨ t = 2) := fun q => (hb.mpr q).elim h6 h15
      refine V_iconst (pc := 22) (v := 0) dX1_goOn_22 (by decide) ?_
      refine V_isn (pc := 23) (fun y => [(0, .ref ((ct 0))), (1, .int y)]) dX1_goOn_23 rfl (by decide) (fun _ => rfl) (fun y23 ey23 => ?_)
      obtain rfl : y23 = nI 0 := ey23
      exact r_go_24 hX he h5 rfl (Or.inr ⟨rfl, k0⟩) rfl h
    · have k1 := hb.mp (Or.inr h15)
      refine V_iconst (pc := 18) (v := 1) dX1_goOn_18 (by decide) ?_
      refine V_goto (pc := 19) (t := 23) dX1_goOn_19 (by decide) ?_
      refine V_isn (pc := 23) (fun y => [(0, .ref ((ct 0))), (1, .int y)]) dX1_goOn_23 rfl (by decide) (fun _ => rfl) (fun y23 ey23 => ?_)
      obtain rfl : y23 = nI 1 := ey23
      exact r_go_24 hX he h5 rfl (Or.inl ⟨rfl, k1⟩) rfl h
