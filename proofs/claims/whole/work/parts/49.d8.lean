/-! ===== the class's own methods: images, trials ===== -/
set_option maxRecDepth 100000 in
set_option maxHeartbeats 1000000 in
theorem C_keep {x : pX} {d : Nat} {S : pS} {Q : Int32 → pS → Prop} {cc m : Nat} {lv im tr ct as : Nat → Nat} {A : Nat → Nat → Int32} {F : Nat → Int32} {n nt np : Nat} (hI : IV S cc m lv im tr ct as A F n nt np) (h : ∀ S2 n2 nt2 np2, NX S S2 cc m lv im tr ct as (va_up A 289 (lyd (A 288) (A 289) 2954)) (va_up F 291 1) n2 nt2 np2 → Q (A 288 0) S2) : PI x (d + 3) M_X8_keep [.ref cc] S Q := by
  have hC := hI.1
  have hMF := hI.2.1
  have hS := hC.wl
  have hW := hI.2.2.1.1
  have hX := hI.2.2.1.2.1
  have hMI := hI.2.2.1.2.2.1
  have hV := hI.2.2.1.2.2.2
  have hn := hMI.1.1
  have hn10 := hMI.1.2
  have ht := hMI.2.1.1
  have ht14 := hMI.2.1.2
  have hp := hMI.2.2.1.1
  have hp20 := hMI.2.2.1.2
  refine PM_of (by decide +kernel) (Nat.le_of_ble_eq_true rfl) ?_
  show V x (d + 3) M_X8_keep (qi Q) (0, 0) 0 [(0, .ref cc)] [] S
  refine V_aln (pc := 0) dX8_keep_0 rfl rfl ?_
  refine V_gr (pc := 1) 8 1 257 dX8_keep_1 (FL_X8_16 rfl) rfl rfl hC.1 hC.ri ?_
  refine V_aln (pc := 4) dX8_keep_4 rfl rfl ?_
  refine V_gr (pc := 5) 8 0 256 dX8_keep_5 (FL_X8_10 rfl) rfl rfl hC.1 hC.rl ?_
  refine V_cVv0 (pc := 8) (jc_X8_322 dX8_keep_8 rfl) rfl rfl (Nat.le_of_ble_eq_true rfl) (hC.wi.k 0 (by decide) rfl) ?_
  refine w_becomeAs hC.wi hS (fun i j hi hj q => (hC.ww hj hi).1 q.symm) hW hC.yl (fun S1 r f1 W1 h6 hr => ?_)
  have N1 := hI.keep f1 W1 h6 hr
  have hC2 := N1.2.1
  · refine V_aln (pc := 11) dX8_keep_11 rfl rfl ?_
    refine V_iconst (pc := 12) (v := 1) dX8_keep_12 (by decide) ?_
    refine V_pz (pc := 13) 8 3 259 dX8_keep_13 (FL_X8_318 rfl) rfl rfl rfl (hC.sp f1.1).1 rfl rfl ?_
    refine V_aln (pc := 16) dX8_keep_16 rfl rfl ?_
    refine V_gr (pc := 17) 8 1 257 dX8_keep_17 (FL_X8_16 rfl) rfl rfl hC2.1 hC2.ri ?_
    refine V_gi (pc := 20) 7 1 225 dX8_keep_20 (FL_X8_206 rfl) rfl rfl (hC2.wi.k 0 (by decide) rfl) ?_
    refine V_iret (pc := 23) dX8_keep_23 rfl rfl ?_
    rw [gI_sI, if_neg (by omega), show gI (sY S1 (im 5) r) 225 (im 0) = A 288 0 from W1.1 225 0 0 (by decide)]
    exact h _ _ _ _ N1
set_option maxRecDepth 100000 in
set_option maxHeartbeats 1000000 in
theorem C_back {x : pX} {d : Nat} {S : pS} {Q : Int32 → pS → Prop} {cc m : Nat} {lv im tr ct as : Nat → Nat} {A : Nat → Nat → Int32} {F : Nat → Int32} {n nt np : Nat} (hI : IV S cc m lv im tr ct as A F n nt np) (h : ∀ S2 n2 nt2 np2, NX S S2 cc m lv im tr ct as (uA A (o_back (F 291) (A 288) (A 289)).2) (F) n2 nt2 np2 → Q ((o_back (F 291) (A 288) (A 289)).1) S2) : PI x (d + 3) M_X8_back [.ref cc] S Q := by
  have hC := hI.1
  have hMF := hI.2.1
  have hS := hC.wl
  have hW := hI.2.2.1.1
  have hX := hI.2.2.1.2.1
  have hMI := hI.2.2.1.2.2.1
  have hV := hI.2.2.1.2.2.2
  have hn := hMI.1.1
  have hn10 := hMI.1.2
  have ht := hMI.2.1.1
  have ht14 := hMI.2.1.2
  have hp := hMI.2.2.1.1
  have hp20 := hMI.2.2.1.2
  have hIM := hI.2.2.2.1
  refine PM_of (by decide +kernel) (Nat.le_of_ble_eq_true rfl) ?_
  show V x (d + 3) M_X8_back (qi Q) (0, 0) 0 [(0, .ref cc)] [] S
  refine V_aln (pc := 0) dX8_back_0 rfl rfl ?_
  refine V_gie (pc := 1) 8 3 259 dX8_back_1 (FL_X8_318 rfl) rfl rfl hC.1 rfl ?_
  refine V_ne (pc := 4) (t := 11) dX8_back_4 (by decide) (fun h4 => ?_) (fun h4 => ?_)
  · rw [hIM.1] at h4
    obtain ⟨q1, n2, nt2, np2, w⟩ := hIM.2.resolve_left h4
    have L0 := w (lyd (A 289) (A 288) 2954) (fun k hk => by unfold lyd; rw [if_pos hk])
    refine V_aln (pc := 11) dX8_back_11 rfl rfl ?_
    refine V_gr (pc := 12) 8 0 256 dX8_back_12 (FL_X8_10 rfl) rfl rfl hC.1 hC.rl ?_
    refine V_aln (pc := 15) dX8_back_15 rfl rfl ?_
    refine V_gr (pc := 16) 8 1 257 dX8_back_16 (FL_X8_16 rfl) rfl rfl hC.1 hC.ri ?_
    refine V_cVv0 (pc := 19) (jc_X8_322 dX8_back_19 rfl) rfl rfl (Nat.le_of_ble_eq_true rfl) (hS.k 0 (by decide) rfl) ?_
    refine w_becomeAs hS hC.wi (fun i j hi hj => (hC.ww hi hj).1) L0.1 hC.yi (fun S1 r f1 W1 h6 hr => ?_)
    have N1 := hI.back L0 f1 W1 h6 hr
    have hC2 := N1.2.1
    · refine V_aln (pc := 22) dX8_back_22 rfl rfl ?_
      refine V_gr (pc := 23) 8 0 256 dX8_back_23 (FL_X8_10 rfl) rfl rfl hC2.1 hC2.rl ?_
      refine V_gi (pc := 26) 7 1 225 dX8_back_26 (FL_X8_206 rfl) rfl rfl (hC2.wl.k 0 (by decide) rfl) ?_
      refine V_iret (pc := 29) dX8_back_29 rfl rfl ?_
      rw [show gI (sY S1 (lv 5) r) 225 (lv 0) = (lyd (A 289) (A 288) 2954) 0 from W1.1 225 0 0 (by decide)]
      have e0 : (lyd (A 289) (A 288) 2954) 0 = A 289 0 := by unfold lyd; rw [if_pos (by decide)]
      have e : o_back (F 291) (A 288) (A 289) = (A 289 0, (lyd (A 289) (A 288) 2954)) := by unfold o_back; rw [if_neg h4]
      rw [e] at h
      rw [e0]
      exact h _ _ _ _ N1
  · rw [hIM.1] at h4
    refine V_ldcw (pc := 7) dX8_back_7 (KC_X8_314 rfl) ?_
    refine V_iret (pc := 10) dX8_back_10 rfl rfl ?_
    have e : o_back (F 291) (A 288) (A 289) = (-1000000002, A 288) := by unfold o_back; rw [if_pos h4]
    rw [e] at h
    exact h S _ _ _ (NX.rfu hI)
set_option maxRecDepth 100000 in
set_option maxHeartbeats 1000000 in
theorem c_stands {x : pX} {d : Nat} {S : pS} {Q : Int32 → pS → Prop} {cc : Nat} {lv im tr ct as : Nat → Nat} (hC : CS S cc lv im tr ct as) {A : Nat → Nat → Int32} {F : Nat → Int32} (hWQ : WQ S cc ct A F) {k w : Nat} (hw : w ≤ 60) (hk : k < 100) {v : Int32} (h1 : k < w → A 315 k = v → Q 1 S) (h0 : ¬ (k < w ∧ A 315 k = v) → Q 0 S) : PI x (d + 1) M_X8_stands [.ref cc, .int (nI k), .int (nI w), .int v] S Q := by
  refine PM_of (by decide +kernel) (Nat.le_of_ble_eq_true rfl) ?_
  show V x (d + 1) M_X8_stands (qi Q) (0, 0) 0 [(0, .ref cc), (1, .int (nI k)), (2, .int (nI w)), (3, .int v)] [] S
  refine V_iln (pc := 0) dX8_stands_0 rfl rfl ?_
  refine V_iln (pc := 1) dX8_stands_1 rfl rfl ?_
  refine V_cge (pc := 2) (t := 25) dX8_stands_2 (by decide) (fun h2 => ?_) (fun h2 => ?_)
  · have q : ¬ (k < w ∧ A 315 k = v) := fun q => nI_ge q.1 (by omega) h2
    refine V_iconst (pc := 25) (v := 0) dX8_stands_25 (by decide) ?_
    refine V_iret (pc := 26) dX8_stands_26 rfl rfl ?_
    first | exact h1 kw h18 | exact h0 q
  · have kw : k < w := Nat.lt_of_not_le (fun q => h2 (nI_le q (by omega)))
    refine V_iln (pc := 5) dX8_stands_5 rfl rfl ?_
    refine V_bipush (pc := 6) (v := 60) dX8_stands_6 (by decide) ?_
    refine V_cge (pc := 8) (t := 25) dX8_stands_8 (by decide) (fun h8 => ?_) (fun h8 => ?_)
    · exact absurd h8 (nI_ge (b := 60) (by omega) (by decide))
    · refine V_aln (pc := 11) dX8_stands_11 rfl rfl ?_
      refine V_gr (pc := 12) 8 8 264 dX8_stands_12 (FL_X8_46 rfl) rfl rfl hC.1 hC.r6 ?_
      refine V_iln (pc := 15) dX8_stands_15 rfl rfl ?_
      refine V_iae (pc := 16) (N := 60) k dX8_stands_16 (hC.k 6 (by decide) rfl) (hC.n 6 (by decide) (by decide) rfl) (by decide) rfl (by omega) (hWQ.2.2 k (by omega)) ?_
      refine V_iln (pc := 17) dX8_stands_17 rfl rfl ?_
      refine V_cne (pc := 18) (t := 25) dX8_stands_18 (by decide) (fun h18 => ?_) (fun h18 => ?_)
      · have q : ¬ (k < w ∧ A 315 k = v) := fun q => h18 q.2
        refine V_iconst (pc := 25) (v := 0) dX8_stands_25 (by decide) ?_
        refine V_iret (pc := 26) dX8_stands_26 rfl rfl ?_
        first | exact h1 kw h18 | exact h0 q
      · refine V_iconst (pc := 21) (v := 1) dX8_stands_21 (by decide) ?_
        refine V_goto (pc := 22) (t := 26) dX8_stands_22 (by decide) ?_
        refine V_iret (pc := 26) dX8_stands_26 rfl rfl ?_
        first | exact h1 kw h18 | exact h0 q
theorem fmt_stk (w r : Nat → Int32) (M D : Nat) : ∀ c k, ¬ (k < M ∧ k < D ∧ w k = r k) → fmt w r M D c k = k
  | 0, _, _ => rfl
  | c + 1, k, h => by unfold fmt; rw [if_neg h]
theorem fmt_go (w r : Nat → Int32) (M D : Nat) : ∀ k, (∀ j, j < k → j < M ∧ j < D ∧ w j = r j) → ∀ c, fmt w r M D (k + c) 0 = fmt w r M D c k
  | 0, _, c => by rw [Nat.zero_add]
  | k + 1, h, c => by
    rw [show k + 1 + c = k + (c + 1) by omega, fmt_go w r M D k (fun j hj => h j (by omega)) (c + 1)]
    show (if k < M ∧ k < D ∧ w k = r k then fmt w r M D c (k + 1) else k) = _
    rw [if_pos (h k (by omega))]
theorem fmt_is {w r : Nat → Int32} {M D k : Nat} (h : ∀ j, j < k → j < M ∧ j < D ∧ w j = r j) (hs : ¬ (k < M ∧ k < D ∧ w k = r k)) : fmt w r M D M 0 = k := by
  have hk : k ≤ M := by
    cases k with
    | zero => exact Nat.zero_le _
    | succ q => have := (h q (by omega)).1; omega
  have e := fmt_go w r M D k h (M - k)
  rw [show k + (M - k) = M by omega] at e
  rw [e]; exact fmt_stk w r M D _ k hs
theorem ndy_mono (σ : Nat → Int32) (n nt k : Nat) : ∀ c, ndy σ n nt k ≤ ndy σ n nt (k + c)
  | 0 => Nat.le_refl _
  | c + 1 => by
    have ih := ndy_mono σ n nt k c
    show _ ≤ (if (fds σ n nt (k + c)).1 3 < 9999 then ndy σ n nt (k + c) + 1 else ndy σ n nt (k + c))
    split <;> omega
set_option maxRecDepth 100000 in
set_option maxHeartbeats 1000000 in
theorem C_check_L {x : pX} {d : Nat} {b : Nat × Nat} {Q : Int32 → pS → Prop} {S0 : pS} {cc m : Nat} {lv im tr ct as : Nat → Nat} {A : Nat → Nat → Int32} {F : Nat → Int32} {n nt np : Nat} {τ : Nat → Int32} {n1 nt1 np1 N w : Nat} (hw : w ≤ 60) (hN30 : N ≤ 30) (hI1 : MI τ n1 nt1 np1) (hV1 : VI τ n1) (h : ∀ S2, NX S0 S2 cc m lv im tr ct as A F n nt np → Q (fmr w (2 * ndy τ n1 nt1 N) (fmt (A 315) (dA τ n1 nt1) w (2 * ndy τ n1 nt1 N) w 0)) S2) : ∀ (c k : Nat), k + c = N → ∀ (S : pS), NX S0 S cc m lv im tr ct as A F n nt np → WR S tr (fds τ n1 nt1 k).1 → TX S tr (fds τ n1 nt1 k).1 nt1 → ndy τ n1 nt1 k = k → (∀ j, j < 2 * k → j < w ∧ A 315 j = dA τ n1 nt1 j) → V x (d + 8) M_X8_check (qi Q) b 50 [(0, .ref cc), (1, .int (nI N)), (2, .int (nI w)), (3, .int (nI (2 * k))), (4, .int (nI k))] [] S := by
  intro c
  induction c with
  | zero =>
    intro k hk S hN hW hX hnd hpr
    have hC := hN.2.1
    have hS := hC.wt
    have mm := fds_mk τ (nt := nt1) hI1.1.2 k
    have M1 := hI1.same mm
    have hV := fds_VI nt1 hV1 hI1.1.2 k
    have dN : ndy τ n1 nt1 N ≤ N := ndy_le _ _ _ _
    refine V_il (pc := 50) dX8_check_50 rfl ?_
    refine V_iln (pc := 52) dX8_check_52 rfl rfl ?_
    refine V_cge (pc := 53) (t := 136) dX8_check_53 (by decide) (fun h53 => ?_) (fun h53 => ?_)
    · have kN : k = N := by omega
      have eD : ndy τ n1 nt1 N = k := by rw [← kN]; exact hnd
      have st : ¬ (2 * k < w ∧ 2 * k < 2 * ndy τ n1 nt1 N ∧ A 315 (2 * k) = dA τ n1 nt1 (2 * k)) := fun q => by omega
      have ef := fmt_is (M := w) (D := 2 * ndy τ n1 nt1 N) (fun j hj => ⟨(hpr j hj).1, by omega, (hpr j hj).2⟩) st
      rw [ef] at h
      refine V_iln (pc := 136) dX8_check_136 rfl rfl ?_
      refine V_iln (pc := 137) dX8_check_137 rfl rfl ?_
      refine V_cne (pc := 138) (t := 145) dX8_check_138 (by decide) (fun h138 => ?_) (fun h138 => ?_)
      · refine V_iconst (pc := 145) (v := 1) dX8_check_145 (by decide) ?_
        refine V_iln (pc := 146) dX8_check_146 rfl rfl ?_
        refine V_iadd (pc := 147) dX8_check_147 ?_
        refine V_iret (pc := 148) dX8_check_148 rfl rfl ?_
        first
          | (have e : 2 * k = w := (nI_eq (by omega) (by omega)).mp h138
             unfold fmr at h; rw [if_pos ⟨e, by omega⟩] at h; exact h S hN)
          | (have e : ¬ 2 * k = w := fun q => h138 (by rw [q])
             unfold fmr at h; rw [if_neg (fun q => e q.1)] at h; rw [show (1 : Int32) = nI 1 from rfl, nI_add]; exact h S hN)
      · refine V_iconst (pc := 141) (v := 0) dX8_check_141 (by decide) ?_
        refine V_goto (pc := 142) (t := 148) dX8_check_142 (by decide) ?_
        refine V_iret (pc := 148) dX8_check_148 rfl rfl ?_
        first
          | (have e : 2 * k = w := (nI_eq (by omega) (by omega)).mp h138
             unfold fmr at h; rw [if_pos ⟨e, by omega⟩] at h; exact h S hN)
          | (have e : ¬ 2 * k = w := fun q => h138 (by rw [q])
             unfold fmr at h; rw [if_neg (fun q => e q.1)] at h; rw [show (1 : Int32) = nI 1 from rfl, nI_add]; exact h S hN)
    · exact absurd (nI_le (by omega) (by omega)) h53
  | succ c ih =>
    intro k hk S hN hW hX hnd hpr
    have hC := hN.2.1
    have hS := hC.wt
    have mm := fds_mk τ (nt := nt1) hI1.1.2 k
    have M1 := hI1.same mm
    have hV := fds_VI nt1 hV1 hI1.1.2 k
    have dN : ndy τ n1 nt1 N ≤ N := ndy_le _ _ _ _
    refine V_il (pc := 50) dX8_check_50 rfl ?_
    refine V_iln (pc := 52) dX8_check_52 rfl rfl ?_
    refine V_cge (pc := 53) (t := 136) dX8_check_53 (by decide) (fun h53 => ?_) (fun h53 => ?_)
    · exact absurd h53 (nI_ge (by omega) (by omega))
    · refine V_aln (pc := 56) dX8_check_56 rfl rfl ?_
      refine V_gr (pc := 57) 8 2 258 dX8_check_57 (FL_X8_19 rfl) rfl rfl hC.1 hC.rt ?_
      refine V_gie (pc := 60) 7 5 229 dX8_check_60 (FL_X8_145 rfl) rfl rfl (hS.k 0 (by decide) rfl) (hW.1 229 0 3 (by decide)) ?_
      refine V_sipush (pc := 63) (v := 9999) dX8_check_63 (by decide) ?_
      refine V_cge (pc := 66) (t := 136) dX8_check_66 (by decide) (fun h66 => ?_) (fun h66 => ?_)
      · have eD : ndy τ n1 nt1 N = k := by
          have q := ndy_end τ n1 nt1 k (Int32.not_lt.mpr h66) (c + 1)
          rw [show k + (c + 1) = N by omega] at q; rw [q]; exact hnd
        have st : ¬ (2 * k < w ∧ 2 * k < 2 * ndy τ n1 nt1 N ∧ A 315 (2 * k) = dA τ n1 nt1 (2 * k)) := fun q => by omega
        have ef := fmt_is (M := w) (D := 2 * ndy τ n1 nt1 N) (fun j hj => ⟨(hpr j hj).1, by omega, (hpr j hj).2⟩) st
        rw [ef] at h
        refine V_iln (pc := 136) dX8_check_136 rfl rfl ?_
        refine V_iln (pc := 137) dX8_check_137 rfl rfl ?_
        refine V_cne (pc := 138) (t := 145) dX8_check_138 (by decide) (fun h138 => ?_) (fun h138 => ?_)
        · refine V_iconst (pc := 145) (v := 1) dX8_check_145 (by decide) ?_
          refine V_iln (pc := 146) dX8_check_146 rfl rfl ?_
          refine V_iadd (pc := 147) dX8_check_147 ?_
          refine V_iret (pc := 148) dX8_check_148 rfl rfl ?_
          first
            | (have e : 2 * k = w := (nI_eq (by omega) (by omega)).mp h138
               unfold fmr at h; rw [if_pos ⟨e, by omega⟩] at h; exact h S hN)
            | (have e : ¬ 2 * k = w := fun q => h138 (by rw [q])
               unfold fmr at h; rw [if_neg (fun q => e q.1)] at h; rw [show (1 : Int32) = nI 1 from rfl, nI_add]; exact h S hN)
        · refine V_iconst (pc := 141) (v := 0) dX8_check_141 (by decide) ?_
          refine V_goto (pc := 142) (t := 148) dX8_check_142 (by decide) ?_
          refine V_iret (pc := 148) dX8_check_148 rfl rfl ?_
          first
            | (have e : 2 * k = w := (nI_eq (by omega) (by omega)).mp h138
               unfold fmr at h; rw [if_pos ⟨e, by omega⟩] at h; exact h S hN)
            | (have e : ¬ 2 * k = w := fun q => h138 (by rw [q])
               unfold fmr at h; rw [if_neg (fun q => e q.1)] at h; rw [show (1 : Int32) = nI 1 from rfl, nI_add]; exact h S hN)
      · have ed : fds τ n1 nt1 (k + 1) = ((fday (fds τ n1 nt1 k).1 n1 nt1), (fds τ n1 nt1 k).2 + (dayF (fds τ n1 nt1 k).1 nt1 n1).2) := by
          show (if (fds τ n1 nt1 k).1 3 < 9999 then _ else _) = _
          rw [if_pos (Int32.not_le.mp h66)]
        have nd1 : ndy τ n1 nt1 (k + 1) = k + 1 := by
          show (if (fds τ n1 nt1 k).1 3 < 9999 then ndy τ n1 nt1 k + 1 else ndy τ n1 nt1 k) = _
          rw [if_pos (Int32.not_le.mp h66), hnd]
        have ndN : k + 1 ≤ ndy τ n1 nt1 N := by
          have q := ndy_mono τ n1 nt1 (k + 1) c
          rw [nd1, show k + 1 + c = N by omega] at q; exact q
        refine V_aln (pc := 69) dX8_check_69 rfl rfl ?_
        refine V_gr (pc := 70) 8 2 258 dX8_check_70 (FL_X8_19 rfl) rfl rfl hC.1 hC.rt ?_
        refine V_cVi0 (pc := 73) (jc_X8_148 dX8_check_73 rfl) rfl rfl (Nat.le_of_ble_eq_true rfl) (hS.k 0 (by decide) rfl) ?_
        refine w_passDay hS hW M1.1.1 M1.1.2 M1.2.1.1 M1.2.1.2 hX hV (fun S2 f2 W2 => ?_)
        have N2 := hN.2.trT f2
        have hC2 := N2.2.1
        have hS2 := hC2.wt
        have m2 := mm.tr (fday_mk (fds τ n1 nt1 k).1 (nt := nt1) hI1.1.2)
        have M2 := hI1.same m2
        · refine V_pop (pc := 76) dX8_check_76 rfl ?_
          refine V_aln (pc := 77) dX8_check_77 rfl rfl ?_
          refine V_iln (pc := 78) dX8_check_78 rfl rfl ?_
          refine V_iln (pc := 79) dX8_check_79 rfl rfl ?_
          refine V_aln (pc := 80) dX8_check_80 rfl rfl ?_
          refine V_gr (pc := 81) 8 2 258 dX8_check_81 (FL_X8_19 rfl) rfl rfl hC2.1 hC2.rt ?_
          refine V_aln (pc := 84) dX8_check_84 rfl rfl ?_
          refine V_gr (pc := 85) 8 2 258 dX8_check_85 (FL_X8_19 rfl) rfl rfl hC2.1 hC2.rt ?_
          refine V_cVi0 (pc := 88) (jc_X8_194 dX8_check_88 rfl) rfl rfl (Nat.le_of_ble_eq_true rfl) (hS2.k 0 (by decide) rfl) ?_
          refine w_allSet hS2 W2 M2.1.1 M2.1.2 ?_
          refine V_cVi0 (pc := 91) (jc_X8_191 dX8_check_91 rfl) rfl rfl (Nat.le_of_ble_eq_true rfl) (hS2.k 0 (by decide) rfl) ?_
          refine w_grainsOf hS2 W2 M2.1.1 M2.1.2 ?_
          refine V_cVi0 (pc := 94) (jc_X8_325 dX8_check_94 rfl) rfl rfl (Nat.le_of_ble_eq_true rfl) hC2.1 ?_
          refine c_stands hC2 N2.2.2.2.2.2.2.2.1 hw (by omega) (fun s1 s2 => ?_) (fun st => ?_)
          · have g0 : A 315 (2 * k) = dA τ n1 nt1 (2 * k) := by rw [dA_0, ed]; exact s2
            refine V_ne (pc := 97) (t := 104) dX8_check_97 (by decide) (fun _ => ?_) (fun h => absurd h (by decide))
            refine V_inc (pc := 104) (fun y => [(0, .ref cc), (1, .int (nI N)), (2, .int (nI w)), (3, .int y), (4, .int (nI k))]) (w := 1) dX8_check_104 (by decide) (by decide) rfl (fun _ => rfl) (fun y104 ey104 => ?_)
            obtain rfl : y104 = nI (2 * k + 1) := by rw [ey104]; exact nI_1 _
            refine V_aln (pc := 107) dX8_check_107 rfl rfl ?_
            refine V_iln (pc := 108) dX8_check_108 rfl rfl ?_
            refine V_iln (pc := 109) dX8_check_109 rfl rfl ?_
            refine V_aln (pc := 110) dX8_check_110 rfl rfl ?_
            refine V_gr (pc := 111) 8 2 258 dX8_check_111 (FL_X8_19 rfl) rfl rfl hC2.1 hC2.rt ?_
            refine V_gie (pc := 114) 7 4 228 dX8_check_114 (FL_X8_328 rfl) rfl rfl (hS2.k 0 (by decide) rfl) (W2.1 228 0 2 (by decide)) ?_
            refine V_cVi0 (pc := 117) (jc_X8_325 dX8_check_117 rfl) rfl rfl (Nat.le_of_ble_eq_true rfl) hC2.1 ?_
            refine c_stands hC2 N2.2.2.2.2.2.2.2.1 hw (by omega) (fun s3 s4 => ?_) (fun st => ?_)
            · have g1 : A 315 (2 * k + 1) = dA τ n1 nt1 (2 * k + 1) := by rw [dA_1, ed]; exact s4
              refine V_ne (pc := 120) (t := 127) dX8_check_120 (by decide) (fun _ => ?_) (fun h => absurd h (by decide))
              refine V_inc (pc := 127) (fun y => [(0, .ref cc), (1, .int (nI N)), (2, .int (nI w)), (3, .int y), (4, .int (nI k))]) (w := 1) dX8_check_127 (by decide) (by decide) rfl (fun _ => rfl) (fun y127 ey127 => ?_)
              obtain rfl : y127 = nI ((2 * k + 1) + 1) := by rw [ey127]; exact nI_1 _
              refine V_inc (pc := 130) (fun y => [(0, .ref cc), (1, .int (nI N)), (2, .int (nI w)), (3, .int (nI ((2 * k + 1) + 1))), (4, .int y)]) (w := 1) dX8_check_130 (by decide) (by decide) rfl (fun _ => rfl) (fun y130 ey130 => ?_)
              obtain rfl : y130 = nI (k + 1) := by rw [ey130]; exact nI_1 _
              refine V_goto (pc := 133) (t := 50) dX8_check_133 (by decide) ?_
              have q := ih (k + 1) (by omega) S2 (hN.tt N2) (by rw [ed]; exact W2) (by rw [ed]; exact hX.w hS f2 (fday_mk (fds τ n1 nt1 k).1 (nt := nt1) hI1.1.2).l) nd1 (fun j hj => ?_)
              · rw [show 2 * (k + 1) = 2 * k + 1 + 1 by omega] at q; exact q
              · rcases (show j < 2 * k ∨ j = 2 * k ∨ j = 2 * k + 1 by omega) with q | q | q
                · exact hpr j q
                · subst q; exact ⟨s1, g0⟩
                · subst q; exact ⟨s3, g1⟩
            · have d1 : dA τ n1 nt1 (2 * k + 1) = (fday (fds τ n1 nt1 k).1 n1 nt1) 2 := by rw [dA_1, ed]
              refine V_ne (pc := 120) (t := 127) dX8_check_120 (by decide) (fun h => absurd h (by decide)) (fun _ => ?_)
              refine V_iconst (pc := 123) (v := 1) dX8_check_123 (by decide) ?_
              refine V_iln (pc := 124) dX8_check_124 rfl rfl ?_
              refine V_iadd (pc := 125) dX8_check_125 ?_
              refine V_iret (pc := 126) dX8_check_126 rfl rfl ?_
              rw [show (1 : Int32) = nI 1 from rfl, nI_add]
              have ef : fmt (A 315) (dA τ n1 nt1) w (2 * ndy τ n1 nt1 N) w 0 = 2 * k + 1 := fmt_is (fun j hj => by rcases (show j < 2 * k ∨ j = 2 * k by omega) with q | q; exact ⟨(hpr j q).1, by omega, (hpr j q).2⟩; subst q; exact ⟨s1, by omega, g0⟩) (fun q => st ⟨q.1, q.2.2.trans d1⟩)
              rw [ef] at h
              unfold fmr at h
              rw [if_neg (by omega)] at h
              exact h S2 (hN.tt N2)
          · have d0 : dA τ n1 nt1 (2 * k) = fsum (fday (fds τ n1 nt1 k).1 n1 nt1) (allS n1) 2 n1 := by rw [dA_0, ed]
            refine V_ne (pc := 97) (t := 104) dX8_check_97 (by decide) (fun h => absurd h (by decide)) (fun _ => ?_)
            refine V_iconst (pc := 100) (v := 1) dX8_check_100 (by decide) ?_
            refine V_iln (pc := 101) dX8_check_101 rfl rfl ?_
            refine V_iadd (pc := 102) dX8_check_102 ?_
            refine V_iret (pc := 103) dX8_check_103 rfl rfl ?_
            rw [show (1 : Int32) = nI 1 from rfl, nI_add]
            have ef : fmt (A 315) (dA τ n1 nt1) w (2 * ndy τ n1 nt1 N) w 0 = 2 * k := fmt_is (fun j hj => ⟨(hpr j hj).1, by omega, (hpr j hj).2⟩) (fun q => st ⟨q.1, q.2.2.trans d0⟩)
            rw [ef] at h
            unfold fmr at h
            rw [if_neg (by omega)] at h
            exact h S2 (hN.tt N2)
set_option maxRecDepth 100000 in
set_option maxHeartbeats 1000000 in
theorem C_check {x : pX} {d : Nat} {S : pS} {Q : Int32 → pS → Prop} {cc m : Nat} {lv im tr ct as : Nat → Nat} {A : Nat → Nat → Int32} {F : Nat → Int32} {n nt np : Nat} (hI : IV S cc m lv im tr ct as A F n nt np) {w : Nat} (hw : F 316 = nI w) (hw60 : w ≤ 60) {n1 nt1 np1 : Nat} (hL : F 291 = 0 ∨ LV S im (lyd (A 289) (A 288) 2954) n1 nt1 np1) {v : Int32} (h : ∀ S2 n2 nt2 np2, NX S S2 cc m lv im tr ct as (A) (va_up F 316 0) n2 nt2 np2 → Q (o_check (A 315) (lyd (A 289) (A 288) 2954) w n1 nt1 (F 291) v) S2) : PI x (d + 8) M_X8_check [.ref cc, .int v] S Q := by
  have hC := hI.1
  have hMF := hI.2.1
  have hS := hC.wl
  have hW := hI.2.2.1.1
  have hX := hI.2.2.1.2.1
  have hMI := hI.2.2.1.2.2.1
  have hV := hI.2.2.1.2.2.2
  have hn := hMI.1.1
  have hn10 := hMI.1.2
  have ht := hMI.2.1.1
  have ht14 := hMI.2.1.2
  have hp := hMI.2.2.1.1
  have hp20 := hMI.2.2.1.2
  have hSH := hI.2.2.2.2.1
  have hSI := hSH.1
  have hSL := hI.2.2.2.2.2.1
  have hWQ := hI.2.2.2.2.2.2.1
  have hTP := hI.2.2.2.2.2.2.2
  have hIM := hI.2.2.2.1
  refine PM_of (by decide +kernel) (Nat.le_of_ble_eq_true rfl) ?_
  show V x (d + 8) M_X8_check (qi Q) (0, 0) 0 [(0, .ref cc), (1, .int v)] [] S
  refine V_aln (pc := 0) dX8_check_0 rfl rfl ?_
  refine V_gie (pc := 1) 8 9 265 dX8_check_1 (FL_X8_315 rfl) rfl rfl hC.1 rfl ?_
  refine V_isn (pc := 4) (fun y => [(0, .ref cc), (1, .int v), (2, .int y)]) dX8_check_4 rfl (by decide) (fun _ => rfl) (fun y4 ey4 => ?_)
  obtain rfl : y4 = nI w := by rw [ey4]; exact hWQ.2.1.trans hw
  refine V_aln (pc := 5) dX8_check_5 rfl rfl ?_
  refine V_iconst (pc := 6) (v := 0) dX8_check_6 (by decide) ?_
  refine V_pi (pc := 7) 8 9 265 dX8_check_7 (FL_X8_315 rfl) rfl rfl rfl hC.1 ?_
  have N1 : NX S (sI S 265 cc 0) cc m lv im tr ct as A (va_up F 316 0) n nt np := hI.waits (T := fun b => b = cc) ((fr.rf (T := fun b => b = cc)).sI (a := cc) rfl 265 0) (fun a q => Or.inl q) (by rw [gI_sI, if_neg (by omega)]) (fun _ _ => rfl) (fun f hf => va_up_ne _ _ hf) ⟨⟨0, by decide, va_up_self _ _ _⟩, by rw [gI_sI, if_pos ⟨rfl, rfl⟩, va_up_self], hWQ.2.2⟩
  have hC1 := N1.2.1
  refine V_iln (pc := 10) dX8_check_10 rfl rfl ?_
  refine V_iconst (pc := 11) (v := 1) dX8_check_11 (by decide) ?_
  refine V_bipush (pc := 12) (v := 30) dX8_check_12 (by decide) ?_
  refine V_cSi0 (pc := 14) (jc_X8_56 dX8_check_14 rfl) rfl rfl (Nat.le_of_ble_eq_true rfl) ?_
  refine c_within (1) (30) (by decide) (by decide) (fun a1 a2 => ?_) (fun a0 => ?_)
  · obtain ⟨q, hq, eq⟩ := int_n (v := v) (N := 30) (by omega) a2 (by decide)
    subst eq
    have tq : (nI q).toInt = q := nI_toInt (by omega)
    have cq : (nI q).toNatClampNeg = q := nI_clamp (by omega)
    refine V_ne (pc := 17) (t := 23) dX8_check_17 (by decide) (fun _ => ?_) (fun h => absurd h (by decide))
    refine V_aln (pc := 23) dX8_check_23 rfl rfl ?_
    refine V_gi (pc := 24) 8 3 259 dX8_check_24 (FL_X8_318 rfl) rfl rfl hC.1 ?_
    refine V_ne (pc := 27) (t := 34) dX8_check_27 (by decide) (fun h27 => ?_) (fun h27 => ?_)
    · rw [gI_sI, if_neg (by omega), hIM.1] at h27
      have L1 := (hL.resolve_left h27).fr (T := fun b => b = cc) ((fr.rf (T := fun b => b = cc)).sI (a := cc) rfl 265 0) (fun i hi q => (hC.w_c hMF.1 hi).1.2.1 q) (hC.o_x (fun a q => Or.inl q))
      refine V_aln (pc := 34) dX8_check_34 rfl rfl ?_
      refine V_gr (pc := 35) 8 2 258 dX8_check_35 (FL_X8_19 rfl) rfl rfl hC.1 hC.rt ?_
      refine V_aln (pc := 38) dX8_check_38 rfl rfl ?_
      refine V_gr (pc := 39) 8 1 257 dX8_check_39 (FL_X8_16 rfl) rfl rfl hC.1 hC.ri ?_
      refine V_cVv0 (pc := 42) (jc_X8_322 dX8_check_42 rfl) rfl rfl (Nat.le_of_ble_eq_true rfl) (hC1.wt.k 0 (by decide) rfl) ?_
      refine w_becomeAs hC1.wt hC1.wi (fun i j hi hj e => (hC1.ww hj hi).2.2 e.symm) L1.1 hC1.yi (fun S2 r f2 W2 h6 hr => ?_)
      have N2 := N1.2.trC f2
      have N3 := N2.2.trY (r := r) (fun k hk p e => hk_fr f2 (hC1.yi k hk p (by rw [← hr k hk]; exact e)))
      have L3 := lv_move L1 hC1.wt f2 W2 h6 hr
      · refine V_iconst (pc := 45) (v := 0) dX8_check_45 (by decide) ?_
        refine V_isn (pc := 46) (fun y => [(0, .ref cc), (1, .int (nI q)), (2, .int (nI w)), (3, .int y)]) dX8_check_46 rfl (by decide) (fun _ => rfl) (fun y46 ey46 => ?_)
        obtain rfl : y46 = nI 0 := ey46
        refine V_iconst (pc := 47) (v := 0) dX8_check_47 (by decide) ?_
        refine V_is (pc := 48) (fun y => [(0, .ref cc), (1, .int (nI q)), (2, .int (nI w)), (3, .int (nI 0)), (4, .int y)]) dX8_check_48 (by decide) (fun _ => rfl) (fun y48 ey48 => ?_)
        obtain rfl : y48 = nI 0 := ey48
        refine C_check_L (np1 := np1) hw60 hq L3.2.2.1 L3.2.2.2 (fun S4 N4 => ?_) q 0 (by omega) _ ((N1.tt N2).tt N3) L3.1 L3.2.1 rfl (fun j hj => absurd hj (by omega))
        have e : o_check (A 315) (lyd (A 289) (A 288) 2954) w n1 nt1 (F 291) (nI q) = fmr w (2 * ndy (lyd (A 289) (A 288) 2954) n1 nt1 q) (fmt (A 315) (dA (lyd (A 289) (A 288) 2954) n1 nt1) w (2 * ndy (lyd (A 289) (A 288) 2954) n1 nt1 q) w 0) := by unfold o_check; rw [if_pos (by omega), if_neg h27, cq]
        rw [e] at h
        exact h S4 _ _ _ N4
    · rw [gI_sI, if_neg (by omega), hIM.1] at h27
      refine V_ldcw (pc := 30) dX8_check_30 (KC_X8_314 rfl) ?_
      refine V_iret (pc := 33) dX8_check_33 rfl rfl ?_
      unfold o_check at h
      rw [if_pos (by omega), if_pos h27] at h
      exact h _ _ _ _ (N1)
  · refine V_ne (pc := 17) (t := 23) dX8_check_17 (by decide) (fun h => absurd h (by decide)) (fun _ => ?_)
    refine V_ldc (pc := 20) dX8_check_20 (KC_X8_60 rfl) ?_
    refine V_iret (pc := 22) dX8_check_22 rfl rfl ?_
    unfold o_check at h
    rw [if_neg (by omega)] at h
    exact h _ _ _ _ (N1)
