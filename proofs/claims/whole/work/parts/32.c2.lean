/-! ===== the class: a World: weights, arms, sets ===== -/
theorem upd_upd (σ : Nat → Int32) (k : Nat) (v w : Int32) : upd (upd σ k v) k w = upd σ k w := by
  funext j
  by_cases h : j = k
  · subst h; rw [pk_us, pk_us]
  · rw [pk_un h, pk_un h, pk_un h]
set_option maxRecDepth 100000 in
set_option maxHeartbeats 4000000 in
theorem w_hasRoom {x : pX} {d : Nat} {S : pS} {Q : Int32 → pS → Prop} {ad : Nat → Nat} {σ : Nat → Int32} (hS : WS S ad) (hW : WR S ad σ) {n : Nat} (hn : σ 0 = nI n) (hn10 : n ≤ 10) (h1 : n < 10 → Q 1 S) (h0 : ¬ n < 10 → Q 0 S) : PI x (d + 1) M_X7_hasRoom [.ref ((ad 0))] S Q := by
  refine PM_of (by decide +kernel) (Nat.le_of_ble_eq_true rfl) ?_
  show V x (d + 1) M_X7_hasRoom (qi Q) (0, 0) 0 [(0, .ref ((ad 0)))] [] S
  refine V_aln (pc := 0) dX7_hasRoom_0 rfl rfl ?_
  refine V_gie (pc := 1) 7 1 225 dX7_hasRoom_1 (FL_X7_56 rfl) rfl rfl (hS.k 0 (by decide) rfl) (hW.1 225 0 0 (by decide)) ?_
  refine V_bipush (pc := 4) (v := 10) dX7_hasRoom_4 (by decide) ?_
  refine V_cge (pc := 6) (t := 13) dX7_hasRoom_6 (by decide) (fun h6 => ?_) (fun h6 => ?_)
  · have q : ¬ n < 10 := fun w => nI_ge (b := 10) w (by decide) (by rw [← hn]; exact h6)
    refine V_iconst (pc := 13) (v := 0) dX7_hasRoom_13 (by decide) ?_
    refine V_iret (pc := 14) dX7_hasRoom_14 rfl rfl ?_
    first | exact h1 q | exact h0 q
  · have q : n < 10 := Nat.lt_of_not_le (fun w => h6 (by rw [hn]; exact nI_le (a := 10) w (by omega)))
    refine V_iconst (pc := 9) (v := 1) dX7_hasRoom_9 (by decide) ?_
    refine V_goto (pc := 10) (t := 14) dX7_hasRoom_10 (by decide) ?_
    refine V_iret (pc := 14) dX7_hasRoom_14 rfl rfl ?_
    first | exact h1 q | exact h0 q
set_option maxRecDepth 100000 in
set_option maxHeartbeats 4000000 in
theorem w_weightAt {x : pX} {d : Nat} {S : pS} {Q : Option Nat → pS → Prop} {ad : Nat → Nat} {σ : Nat → Int32} (hS : WS S ad) (hW : WR S ad σ) {n : Nat} (hn : σ 0 = nI n) (hn10 : n ≤ 10) {i : Int32} (h1 : ∀ k, k < n → i = nI k → (nI k).toInt = k → (nI k).toNatClampNeg = k → Q (some (ad (10 + k))) S) (h0 : ¬ (0 ≤ i.toInt ∧ i.toInt < n) → Q none S) : PR x (d + 1) M_X7_weightAt [.ref ((ad 0)), .int i] S Q := by
  have tn : (nI n).toInt = n := nI_toInt (by omega)
  refine PM_of (by decide +kernel) (Nat.le_of_ble_eq_true rfl) ?_
  show V x (d + 1) M_X7_weightAt (qr Q) (0, 0) 0 [(0, .ref ((ad 0))), (1, .int i)] [] S
  refine V_iln (pc := 0) dX7_weightAt_0 rfl rfl ?_
  refine V_lt (pc := 1) (t := 27) dX7_weightAt_1 (by decide) (fun h1_ => ?_) (fun h1_ => ?_)
  · have q0 : ¬ (0 ≤ i.toInt ∧ i.toInt < n) := fun w => by have := lt_toInt.mp h1_; have e : (0 : Int32).toInt = 0 := rfl; omega
    refine V_null (pc := 27) dX7_weightAt_27 ?_
    refine V_aretN (pc := 28) dX7_weightAt_28 rfl (Or.inl ⟨_, rfl⟩) ?_
    first | exact h1 k hk rfl e2 e3 | exact h0 q0
  · have q1 : 0 ≤ i.toInt := by have := le_toInt.mp (Int32.not_lt.mp h1_); have e : (0 : Int32).toInt = 0 := rfl; omega
    refine V_iln (pc := 4) dX7_weightAt_4 rfl rfl ?_
    refine V_aln (pc := 5) dX7_weightAt_5 rfl rfl ?_
    refine V_gie (pc := 6) 7 1 225 dX7_weightAt_6 (FL_X7_56 rfl) rfl rfl (hS.k 0 (by decide) rfl) (hW.1 225 0 0 (by decide)) ?_
    refine V_cge (pc := 9) (t := 27) dX7_weightAt_9 (by decide) (fun h9 => ?_) (fun h9 => ?_)
    · have q0 : ¬ (0 ≤ i.toInt ∧ i.toInt < n) := fun w => by rw [hn] at h9; have := le_toInt.mp h9; omega
      refine V_null (pc := 27) dX7_weightAt_27 ?_
      refine V_aretN (pc := 28) dX7_weightAt_28 rfl (Or.inl ⟨_, rfl⟩) ?_
      first | exact h1 k hk rfl e2 e3 | exact h0 q0
    · have q2 : i.toInt < n := by rw [hn] at h9; have := lt_toInt.mp (Int32.not_le.mp h9); omega
      obtain ⟨k, hk, e1, e2, e3⟩ := idx_of (w := i) (n := n) (by omega) q1 q2
      subst e1
      refine V_iln (pc := 12) dX7_weightAt_12 rfl rfl ?_
      refine V_bipush (pc := 13) (v := 10) dX7_weightAt_13 (by decide) ?_
      refine V_cge (pc := 15) (t := 27) dX7_weightAt_15 (by decide) (fun h15 => ?_) (fun h15 => ?_)
      · exact absurd h15 (nI_ge (b := 10) (by omega) (by decide))
      · refine V_aln (pc := 18) dX7_weightAt_18 rfl rfl ?_
        refine V_gr (pc := 19) 7 0 224 dX7_weightAt_19 (FL_X7_11 rfl) rfl rfl (hS.k 0 (by decide) rfl) hS.2.2.1.1 ?_
        refine V_iln (pc := 22) dX7_weightAt_22 rfl rfl ?_
        refine V_aa (pc := 23) (N := 10) 14 k dX7_weightAt_23 (by decide) (by decide) (hS.k 1 (by decide) rfl) (hS.2.1 1 (by decide)) (by decide) rfl (by show (_ : Nat) < 10; omega) (hS.2.2.2.1 k (by omega)) ?_
        refine V_goto (pc := 24) (t := 28) dX7_weightAt_24 (by decide) ?_
        refine V_aret (pc := 28) dX7_weightAt_28 rfl (Or.inl ⟨_, rfl⟩) ?_
        first | exact h1 k hk rfl e2 e3 | exact h0 q0
theorem sCome_eq (σ : Nat → Int32) (n : Nat) (k s : Int32) : upd (upd (upd (upd (upd σ (14 + 4 * n + 0) k) (14 + 4 * n + 1) s) (14 + 4 * n + 2) s) (14 + 4 * n + 3) 0) 0 (nI (n + 1)) = sCome σ n k s := by
  unfold sCome
  rw [upd_comm (j := 0) (by omega), upd_comm (j := 0) (by omega), upd_comm (j := 0) (by omega), upd_comm (j := 0) (by omega)]
theorem WR.s4 {P : pS} {ad : Nat → Nat} {σ : Nat → Int32} (h : WR P ad σ) (hS : WS P ad) {i : Nat} (hi : i < 10) (k s g t : Int32) : WR (s4 P (ad (10 + i)) k s g t) ad (upd (upd (upd (upd σ (14 + 4 * i + 0) k) (14 + 4 * i + 1) s) (14 + 4 * i + 2) g) (14 + 4 * i + 3) t) := (((h.I hS (f := 192) (i := 10 + i) (k := 14 + 4 * i + 0) (by unfold cI; omega) k).I hS (f := 193) (i := 10 + i) (k := 14 + 4 * i + 1) (by unfold cI; omega) s).I hS (f := 194) (i := 10 + i) (k := 14 + 4 * i + 2) (by unfold cI; omega) g).I hS (f := 195) (i := 10 + i) (k := 14 + 4 * i + 3) (by unfold cI; omega) t
theorem wfr.s4 {P P' : pS} {ad : Nat → Nat} (h : wfr ad P P') {i : Nat} (hi : wIx i) (h5 : i ≠ 5) (h6 : i ≠ 6) (k s g t : Int32) : wfr ad P (s4 P' (ad i) k s g t) := (((h.I hi h5 h6 192 k).I hi h5 h6 193 s).I hi h5 h6 194 g).I hi h5 h6 195 t
set_option maxRecDepth 100000 in
set_option maxHeartbeats 4000000 in
theorem w_addWeight {x : pX} {d : Nat} {S : pS} {Q : Int32 → pS → Prop} {ad : Nat → Nat} {σ : Nat → Int32} (hS : WS S ad) (hW : WR S ad σ) {n : Nat} (hn : σ 0 = nI n) (hn10 : n ≤ 10) {k s : Int32} (hr : n < 10) (h : ∀ S2, wfr ad S S2 → WR S2 ad (sCome σ n k s) → Q (nI n) S2) : PI x (d + 2) M_X7_addWeight [.ref ((ad 0)), .int k, .int s] S Q := by
  refine PM_of (by decide +kernel) (Nat.le_of_ble_eq_true rfl) ?_
  show V x (d + 2) M_X7_addWeight (qi Q) (0, 0) 0 [(0, .ref ((ad 0))), (1, .int k), (2, .int s)] [] S
  refine V_aln (pc := 0) dX7_addWeight_0 rfl rfl ?_
  refine V_cVi0 (pc := 1) (jc_X7_81 dX7_addWeight_1 rfl) rfl rfl (Nat.le_of_ble_eq_true rfl) (hS.k 0 (by decide) rfl) ?_
  refine w_hasRoom hS hW hn hn10 (fun _ => ?_) (fun q => absurd hr q)
  · refine V_ne (pc := 4) (t := 10) dX7_addWeight_4 (by decide) (fun _ => ?_) (fun h => absurd h (by decide))
    refine V_aln (pc := 10) dX7_addWeight_10 rfl rfl ?_
    refine V_gr (pc := 11) 7 0 224 dX7_addWeight_11 (FL_X7_11 rfl) rfl rfl (hS.k 0 (by decide) rfl) hS.2.2.1.1 ?_
    refine V_aln (pc := 14) dX7_addWeight_14 rfl rfl ?_
    refine V_gie (pc := 15) 7 1 225 dX7_addWeight_15 (FL_X7_56 rfl) rfl rfl (hS.k 0 (by decide) rfl) (hW.1 225 0 0 (by decide)) ?_
    refine V_aa (pc := 18) (N := 10) 14 n dX7_addWeight_18 (by decide) (by decide) (hS.k 1 (by decide) rfl) (hS.2.1 1 (by decide)) (by decide) hn (by show (_ : Nat) < 10; omega) (hS.2.2.2.1 n hr) ?_
    refine V_iln (pc := 19) dX7_addWeight_19 rfl rfl ?_
    refine V_iln (pc := 20) dX7_addWeight_20 rfl rfl ?_
    refine V_cVv0 (pc := 21) (jc_X7_86 dX7_addWeight_21 rfl) rfl rfl (Nat.le_of_ble_eq_true rfl) (hS.w hr) ?_
    refine c_stampAnew (hS.w hr) ?_
    have hW2 := hW.s4 hS hr k s s 0
    have hF2 := (wfr.rf (ad := ad) (P := S)).s4 (i := 10 + n) (by unfold wIx; omega) (by omega) (by omega) k s s 0
    refine V_aln (pc := 24) dX7_addWeight_24 rfl rfl ?_
    refine V_dup (pc := 25) dX7_addWeight_25 rfl ?_
    refine V_gi (pc := 26) 7 1 225 dX7_addWeight_26 (FL_X7_56 rfl) rfl rfl (hS.k 0 (by decide) rfl) ?_
    refine V_iconst (pc := 29) (v := 1) dX7_addWeight_29 (by decide) ?_
    refine V_iadd (pc := 30) dX7_addWeight_30 ?_
    refine V_pi (pc := 31) 7 1 225 dX7_addWeight_31 (FL_X7_56 rfl) rfl rfl rfl (hS.k 0 (by decide) rfl) ?_
    have eC : gI (s4 S (ad (10 + n)) k s s 0) 225 (ad 0) = nI n := by rw [hW2.1 225 0 0 (by decide), pk_un (by omega), pk_un (by omega), pk_un (by omega), pk_un (by omega)]; exact hn
    rw [eC, nI_1]
    have hW3 := hW2.I hS (f := 225) (i := 0) (k := 0) (by decide) (nI (n + 1))
    rw [sCome_eq] at hW3
    have hF3 := hF2.I (i := 0) (by decide) (by decide) (by decide) 225 (nI (n + 1))
    refine V_aln (pc := 34) dX7_addWeight_34 rfl rfl ?_
    refine V_gi (pc := 35) 7 1 225 dX7_addWeight_35 (FL_X7_56 rfl) rfl rfl (hS.k 0 (by decide) rfl) ?_
    refine V_iconst (pc := 38) (v := 1) dX7_addWeight_38 (by decide) ?_
    refine V_isub (pc := 39) dX7_addWeight_39 ?_
    refine V_iret (pc := 40) dX7_addWeight_40 rfl rfl ?_
    rw [hW3.1 225 0 0 (by decide)]
    have e1 : sCome σ n k s 0 = nI (n + 1) := by rw [← sCome_eq, pk_us]
    rw [e1, show (1 : Int32) = nI 1 from rfl, nI_sub (by omega), Nat.add_sub_cancel]
    exact h _ hF3 hW3
set_option maxRecDepth 100000 in
set_option maxHeartbeats 4000000 in
theorem w_draw {x : pX} {d : Nat} {S : pS} {Q : Int32 → pS → Prop} {ad : Nat → Nat} {σ : Nat → Int32} (hS : WS S ad) (hW : WR S ad σ) (h : ∀ S2, wfr ad S S2 → WR S2 ad (upd σ 4 (nx (σ 4))) → Q (dr (nx (σ 4))) S2) : PI x (d + 1) M_X7_draw [.ref ((ad 0))] S Q := by
  refine PM_of (by decide +kernel) (Nat.le_of_ble_eq_true rfl) ?_
  show V x (d + 1) M_X7_draw (qi Q) (0, 0) 0 [(0, .ref ((ad 0)))] [] S
  refine V_aln (pc := 0) dX7_draw_0 rfl rfl ?_
  refine V_aln (pc := 1) dX7_draw_1 rfl rfl ?_
  refine V_gie (pc := 2) 7 6 230 dX7_draw_2 (FL_X7_28 rfl) rfl rfl (hS.k 0 (by decide) rfl) (hW.1 230 0 4 (by decide)) ?_
  refine V_ldc (pc := 5) dX7_draw_5 (KC_X7_90 rfl) ?_
  refine V_imul (pc := 7) dX7_draw_7 ?_
  refine V_sipush (pc := 8) (v := 12345) dX7_draw_8 (by decide) ?_
  refine V_iadd (pc := 11) dX7_draw_11 ?_
  refine V_pi (pc := 12) 7 6 230 dX7_draw_12 (FL_X7_28 rfl) rfl rfl rfl (hS.k 0 (by decide) rfl) ?_
  have hW12 := hW.I hS (f := 230) (i := 0) (k := 4) (by unfold cI; omega) ((((σ 4) * 1103515245) + 12345))
  have hF12 := (wfr.rf (ad := ad) (P := S)).I (i := 0) (by unfold wIx; omega) (by omega) (by omega) 230 ((((σ 4) * 1103515245) + 12345))
  refine V_aln (pc := 15) dX7_draw_15 rfl rfl ?_
  refine V_gie (pc := 16) 7 6 230 dX7_draw_16 (FL_X7_28 rfl) rfl rfl (hS.k 0 (by decide) rfl) (hW12.1 230 0 4 (by decide)) ?_
  refine V_bipush (pc := 19) (v := 8) dX7_draw_19 (by decide) ?_
  refine V_iushr (pc := 21) dX7_draw_21 ?_
  refine V_iret (pc := 22) dX7_draw_22 rfl rfl ?_
  rw [pk_us]
  exact h _ hF12 hW12
set_option maxRecDepth 100000 in
set_option maxHeartbeats 4000000 in
theorem w_drawWeight {x : pX} {d : Nat} {S : pS} {Q : pS → Prop} {ad : Nat → Nat} {σ : Nat → Int32} (hS : WS S ad) (hW : WR S ad σ) {n : Nat} (hn : σ 0 = nI n) (hn10 : n ≤ 10) (hr : n < 10) (h : ∀ S2, wfr ad S S2 → WR S2 ad (deal1 σ n) → Q S2) : PV x (d + 3) M_X7_drawWeight [.ref ((ad 0))] S Q := by
  refine PM_of (by decide +kernel) (Nat.le_of_ble_eq_true rfl) ?_
  show V x (d + 3) M_X7_drawWeight (qv Q) (0, 0) 0 [(0, .ref ((ad 0)))] [] S
  refine V_aln (pc := 0) dX7_drawWeight_0 rfl rfl ?_
  refine V_cVi0 (pc := 1) (jc_X7_91 dX7_drawWeight_1 rfl) rfl rfl (Nat.le_of_ble_eq_true rfl) (hS.k 0 (by decide) rfl) ?_
  refine w_draw hS hW (fun S1 f1 hW1 => ?_)
  have hS1 := hS.f f1
  refine V_bipush (pc := 4) (v := 6) dX7_drawWeight_4 (by decide) ?_
  refine V_irem (pc := 6) dX7_drawWeight_6 (by decide) ?_
  refine V_isn (pc := 7) (fun y => [(0, .ref ((ad 0))), (1, .int y)]) dX7_drawWeight_7 rfl (by decide) (fun _ => rfl) (fun y7 ey7 => ?_)
  refine V_iconst (pc := 8) (v := 1) dX7_drawWeight_8 (by decide) ?_
  refine V_aln (pc := 9) dX7_drawWeight_9 rfl rfl ?_
  refine V_cVi0 (pc := 10) (jc_X7_91 dX7_drawWeight_10 rfl) rfl rfl (Nat.le_of_ble_eq_true rfl) (hS1.k 0 (by decide) rfl) ?_
  refine w_draw hS1 hW1 (fun S2 f2 hW2 => ?_)
  have hS2 := hS1.f f2
  rw [pk_us, upd_upd] at hW2
  rw [pk_us]
  refine V_sipush (pc := 13) (v := 400) dX7_drawWeight_13 (by decide) ?_
  refine V_irem (pc := 16) dX7_drawWeight_16 (by decide) ?_
  refine V_iadd (pc := 17) dX7_drawWeight_17 ?_
  refine V_isn (pc := 18) (fun y => [(0, .ref ((ad 0))), (1, .int y7), (2, .int y)]) dX7_drawWeight_18 rfl (by decide) (fun _ => rfl) (fun y18 ey18 => ?_)
  refine V_aln (pc := 19) dX7_drawWeight_19 rfl rfl ?_
  refine V_iln (pc := 20) dX7_drawWeight_20 rfl rfl ?_
  refine V_iln (pc := 21) dX7_drawWeight_21 rfl rfl ?_
  refine V_cVi0 (pc := 22) (jc_X7_95 dX7_drawWeight_22 rfl) rfl rfl (Nat.le_of_ble_eq_true rfl) (hS2.k 0 (by decide) rfl) ?_
  subst ey7; subst ey18
  refine w_addWeight hS2 hW2 (by rw [pk_un (by omega)]; exact hn) hn10 hr (fun S3 f3 hW3 => ?_)
  refine V_pop (pc := 25) dX7_drawWeight_25 rfl ?_
  refine V_ret (pc := 26) dX7_drawWeight_26 rfl ?_
  exact h S3 ((f1.tr f2).tr f3) hW3
theorem x_dummy : True := trivial
