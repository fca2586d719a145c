/-! ===== the class's own methods: by lot, days, weighings ===== -/
theorem dr_n (z : Int32) : ∃ q : Nat, q < 2 ^ 24 ∧ dr z = nI q := by
  refine ⟨z.toUInt32.toNat / 256, ?_, ?_⟩
  · have := z.toUInt32.toNat_lt; omega
  · unfold dr nI
    rw [show ((8 : Int32).toUInt32 &&& Int32.toUInt32 31) = 8 from by decide]
    apply Int32.toBitVec_inj.mp
    apply BitVec.eq_of_toNat_eq
    show (z.toUInt32 >>> 8).toNat = _
    rw [UInt32.toNat_shiftRight]
    show z.toUInt32.toNat >>> 8 = (BitVec.ofNat 32 _).toNat
    rw [BitVec.toNat_ofNat, Nat.shiftRight_eq_div_pow]
    have := z.toUInt32.toNat_lt
    omega
theorem rm_n {q b : Nat} (hq : q < 2 ^ 24) (hb : 0 < b) (hb2 : b < 2 ^ 24) : rm (nI q) (nI b) = nI (q % b) := pk_rem (by omega) hb (by omega)
theorem deal1_VI {σ : Nat → Int32} {n : Nat} (h : VI σ n) (hn : n < 10) : VI (deal1 σ n) (n + 1) := by
  unfold deal1
  obtain ⟨q1, h1, e1⟩ := dr_n (nx (σ 4))
  obtain ⟨q2, h2, e2⟩ := dr_n (nx (nx (σ 4)))
  rw [e1, e2, show (6 : Int32) = nI 6 from rfl, show (400 : Int32) = nI 400 from rfl, show (1 : Int32) = nI 1 from rfl, rm_n h1 (by decide) (by decide), rm_n h2 (by decide) (by decide), nI_add]
  have m1 := Nat.mod_lt q1 (show 0 < 6 by decide)
  have m2 := Nat.mod_lt q2 (show 0 < 400 by decide)
  exact (h.up (by omega) _ (by omega) (by omega)).come hn (by omega) (by omega) (by omega)
theorem deal1_tl (σ : Nat → Int32) {n : Nat} (hn : n < 10) : tl σ (deal1 σ n) := (tl.rf.up (by omega) _).tr (sCome_tl _ hn _ _)
theorem deal1_MI {σ : Nat → Int32} {n nt np : Nat} (h : MI σ n nt np) (hn : n < 10) : MI (deal1 σ n) (n + 1) nt np := (h.up (by omega) _).come hn _ _
theorem dealt_all {σ : Nat → Int32} {n nt np : Nat} (h : MI σ n nt np) (hV : VI σ n) : ∀ c, n + c ≤ 10 → tl σ (dealt σ n c) ∧ MI (dealt σ n c) (n + c) nt np ∧ VI (dealt σ n c) (n + c)
  | 0, _ => ⟨tl.rf, h, hV⟩
  | c + 1, hc => by
    obtain ⟨h1, h2, h3⟩ := dealt_all h hV c (by omega)
    exact ⟨h1.tr (deal1_tl _ (by omega)), deal1_MI h2 (by omega), deal1_VI h3 (by omega)⟩
set_option maxRecDepth 100000 in
set_option maxHeartbeats 1000000 in
theorem C_deal_L {x : pX} {d : Nat} {b : Nat × Nat} {Q : Int32 → pS → Prop} {S0 : pS} {cc m : Nat} {lv im tr ct as : Nat → Nat} {A : Nat → Nat → Int32} {F : Nat → Int32} {n nt np : Nat} (hI : IV S0 cc m lv im tr ct as A F n nt np) {v N : Nat} (hv : v ≤ 10) (hN : N = min v (10 - n)) (h : ∀ S2, wfr lv S0 S2 → WR S2 lv (dealt (A 288) n N) → Q (nI N) S2) : ∀ (c k : Nat), k + c = N → ∀ (S : pS), wfr lv S0 S → WR S lv (dealt (A 288) n k) → V x (d + 4) M_X8_deal (qi Q) b 15 [(0, .ref cc), (1, .int (nI v)), (2, .int (nI k))] [] S := by
  intro c
  induction c with
  | zero =>
    intro k hk S hF hW
    have hC := hI.1.sp hF.1
    have hS := hI.1.wl.f hF
    have hn := hI.2.2.1.2.2.1.1.1
    have hn10 := hI.2.2.1.2.2.1.1.2
    refine V_iln (pc := 15) dX8_deal_15 rfl rfl ?_
    refine V_iln (pc := 16) dX8_deal_16 rfl rfl ?_
    refine V_cge (pc := 17) (t := 43) dX8_deal_17 (by decide) (fun h17 => ?_) (fun h17 => ?_)
    · refine V_iln (pc := 43) dX8_deal_43 rfl rfl ?_
      refine V_iret (pc := 44) dX8_deal_44 rfl rfl ?_
      obtain rfl : k = N := by omega
      exact h S hF hW
    · have kv : k < v := Nat.lt_of_not_le (fun w => h17 (nI_le w (by omega)))
      refine V_aln (pc := 20) dX8_deal_20 rfl rfl ?_
      refine V_gr (pc := 21) 8 0 256 dX8_deal_21 (FL_X8_10 rfl) rfl rfl hC.1 hC.rl ?_
      refine V_cVi0 (pc := 24) (jc_X8_61 dX8_deal_24 rfl) rfl rfl (Nat.le_of_ble_eq_true rfl) (hS.k 0 (by decide) rfl) ?_
      refine w_hasRoom hS hW (n := n + k) (dealt_0 _ _ hn k) (by omega) (fun r1 => ?_) (fun r0 => ?_)
      · exact absurd r1 (by omega)
      · refine V_eq (pc := 27) (t := 43) dX8_deal_27 (by decide) (fun _ => ?_) (fun h => absurd h (by decide))
        refine V_iln (pc := 43) dX8_deal_43 rfl rfl ?_
        refine V_iret (pc := 44) dX8_deal_44 rfl rfl ?_
        obtain rfl : k = N := by omega
        exact h S hF hW
  | succ c ih =>
    intro k hk S hF hW
    have hC := hI.1.sp hF.1
    have hS := hI.1.wl.f hF
    have hn := hI.2.2.1.2.2.1.1.1
    have hn10 := hI.2.2.1.2.2.1.1.2
    refine V_iln (pc := 15) dX8_deal_15 rfl rfl ?_
    refine V_iln (pc := 16) dX8_deal_16 rfl rfl ?_
    refine V_cge (pc := 17) (t := 43) dX8_deal_17 (by decide) (fun h17 => ?_) (fun h17 => ?_)
    · exact absurd h17 (nI_ge (by omega) (by omega))
    · refine V_aln (pc := 20) dX8_deal_20 rfl rfl ?_
      refine V_gr (pc := 21) 8 0 256 dX8_deal_21 (FL_X8_10 rfl) rfl rfl hC.1 hC.rl ?_
      refine V_cVi0 (pc := 24) (jc_X8_61 dX8_deal_24 rfl) rfl rfl (Nat.le_of_ble_eq_true rfl) (hS.k 0 (by decide) rfl) ?_
      refine w_hasRoom hS hW (n := n + k) (dealt_0 _ _ hn k) (by omega) (fun r1 => ?_) (fun r0 => absurd (by omega) r0)
      · refine V_eq (pc := 27) (t := 43) dX8_deal_27 (by decide) (fun h => absurd h (by decide)) (fun _ => ?_)
        refine V_aln (pc := 30) dX8_deal_30 rfl rfl ?_
        refine V_gr (pc := 31) 8 0 256 dX8_deal_31 (FL_X8_10 rfl) rfl rfl hC.1 hC.rl ?_
        refine V_cVv0 (pc := 34) (jc_X8_111 dX8_deal_34 rfl) rfl rfl (Nat.le_of_ble_eq_true rfl) (hS.k 0 (by decide) rfl) ?_
        refine w_drawWeight hS hW (n := n + k) (dealt_0 _ _ hn k) (by omega) (by omega) (fun S2 f2 W2 => ?_)
        refine V_inc (pc := 37) (fun y => [(0, .ref cc), (1, .int (nI v)), (2, .int y)]) (w := 1) dX8_deal_37 (by decide) (by decide) rfl (fun _ => rfl) (fun y37 ey37 => ?_)
        obtain rfl : y37 = nI (k + 1) := by rw [ey37]; exact nI_1 _
        refine V_goto (pc := 40) (t := 15) dX8_deal_40 (by decide) ?_
        exact ih (k + 1) (by omega) S2 (hF.tr f2) W2
set_option maxRecDepth 100000 in
set_option maxHeartbeats 1000000 in
theorem C_deal {x : pX} {d : Nat} {S : pS} {Q : Int32 → pS → Prop} {cc m : Nat} {lv im tr ct as : Nat → Nat} {A : Nat → Nat → Int32} {F : Nat → Int32} {n nt np : Nat} (hI : IV S cc m lv im tr ct as A F n nt np) {v : Int32} (h : ∀ S2 n2 nt2 np2, NX S S2 cc m lv im tr ct as (uA A (o_deal (A 288) n v).2) (F) n2 nt2 np2 → Q ((o_deal (A 288) n v).1) S2) : PI x (d + 4) M_X8_deal [.ref cc, .int v] S Q := by
  have hC := hI.1
  have hMF := hI.2.1
  have hS := hC.wl
  have hW := hI.2.2.1.1
  have hX := hI.2.2.1.2.1
  have hMI := hI.2.2.1.2.2.1
  have hV := hI.2.2.1.2.2.2
  have hn := hMI.1.1
  have hn10 := hMI.1.2
  have ht := hMI.2.1.1
  have ht14 := hMI.2.1.2
  have hp := hMI.2.2.1.1
  have hp20 := hMI.2.2.1.2
  refine PM_of (by decide +kernel) (Nat.le_of_ble_eq_true rfl) ?_
  show V x (d + 4) M_X8_deal (qi Q) (0, 0) 0 [(0, .ref cc), (1, .int v)] [] S
  refine V_iln (pc := 0) dX8_deal_0 rfl rfl ?_
  refine V_iconst (pc := 1) (v := 1) dX8_deal_1 (by decide) ?_
  refine V_bipush (pc := 2) (v := 10) dX8_deal_2 (by decide) ?_
  refine V_cSi0 (pc := 4) (jc_X8_56 dX8_deal_4 rfl) rfl rfl (Nat.le_of_ble_eq_true rfl) ?_
  refine c_within (1) (10) (by decide) (by decide) (fun a1 a2 => ?_) (fun a0 => ?_)
  · obtain ⟨q, hq, eq⟩ := int_n (v := v) (N := 10) (by omega) a2 (by decide)
    subst eq
    have tq : (nI q).toInt = q := nI_toInt (by omega)
    have cq : (nI q).toNatClampNeg = q := nI_clamp (by omega)
    refine V_ne (pc := 7) (t := 13) dX8_deal_7 (by decide) (fun _ => ?_) (fun h => absurd h (by decide))
    refine V_iconst (pc := 13) (v := 0) dX8_deal_13 (by decide) ?_
    refine V_isn (pc := 14) (fun y => [(0, .ref cc), (1, .int (nI q)), (2, .int y)]) dX8_deal_14 rfl (by decide) (fun _ => rfl) (fun y14 ey14 => ?_)
    obtain rfl : y14 = nI 0 := ey14
    refine C_deal_L hI hq rfl (fun S2 f2 W2 => ?_) (min q (10 - n)) 0 (by omega) S wfr.rf hW
    obtain ⟨d1, d2, d3⟩ := dealt_all hMI hV (min q (10 - n)) (by omega)
    have e : o_deal (A 288) n (nI q) = (nI (min q (10 - n)), dealt (A 288) n (min q (10 - n))) := by unfold o_deal; rw [if_pos (by omega), cq]
    rw [e] at h
    exact h S2 _ _ _ (hI.live f2 W2 d1 d2 d3)
  · refine V_ne (pc := 7) (t := 13) dX8_deal_7 (by decide) (fun h => absurd h (by decide)) (fun _ => ?_)
    refine V_ldc (pc := 10) dX8_deal_10 (KC_X8_60 rfl) ?_
    refine V_iret (pc := 12) dX8_deal_12 rfl rfl ?_
    have e : o_deal (A 288) n v = (-1000000001, A 288) := by unfold o_deal; rw [if_neg (by omega)]
    rw [e] at h
    exact h S _ _ _ (NX.rfu hI)
set_option maxRecDepth 100000 in
set_option maxHeartbeats 1000000 in
theorem C_days_L {x : pX} {d : Nat} {b : Nat × Nat} {Q : Int32 → pS → Prop} {S0 : pS} {cc m : Nat} {lv im tr ct as : Nat → Nat} {A : Nat → Nat → Int32} {F : Nat → Int32} {n nt np : Nat} (hI : IV S0 cc m lv im tr ct as A F n nt np) {N : Nat} (hN : N ≤ 60) (h : ∀ S2, wfr lv S0 S2 → WR S2 lv (fds (A 288) n nt N).1 → Q (nI (fds (A 288) n nt N).2) S2) : ∀ (c k : Nat), k + c = N → ∀ (S : pS), wfr lv S0 S → WR S lv (fds (A 288) n nt k).1 → V x (d + 8) M_X8_days (qi Q) b 17 [(0, .ref cc), (1, .int (nI N)), (2, .int (nI (((fds (A 288) n nt k).2)))), (3, .int (nI k))] [] S := by
  intro c
  induction c with
  | zero =>
    intro k hk S hF hW
    have hC := hI.1.sp hF.1
    have hS := hI.1.wl.f hF
    have hMI := hI.2.2.1.2.2.1
    have hn10 := hMI.1.2
    have mm := fds_mk (A 288) (nt := nt) hn10 k
    have M2 := hMI.same mm
    have hX := hI.2.2.1.2.1.w hI.1.wl hF mm.l
    have hV := fds_VI nt hI.2.2.1.2.2.2 hn10 k
    have le := fds_le (A 288) (nt := nt) hn10 k
    refine V_iln (pc := 17) dX8_days_17 rfl rfl ?_
    refine V_iln (pc := 18) dX8_days_18 rfl rfl ?_
    refine V_cge (pc := 19) (t := 51) dX8_days_19 (by decide) (fun h19 => ?_) (fun h19 => ?_)
    · refine V_iln (pc := 51) dX8_days_51 rfl rfl ?_
      refine V_iret (pc := 52) dX8_days_52 rfl rfl ?_
      obtain rfl : k = N := by omega
      exact h S hF hW
    · exact absurd (nI_le (by omega) (by omega)) h19
  | succ c ih =>
    intro k hk S hF hW
    have hC := hI.1.sp hF.1
    have hS := hI.1.wl.f hF
    have hMI := hI.2.2.1.2.2.1
    have hn10 := hMI.1.2
    have mm := fds_mk (A 288) (nt := nt) hn10 k
    have M2 := hMI.same mm
    have hX := hI.2.2.1.2.1.w hI.1.wl hF mm.l
    have hV := fds_VI nt hI.2.2.1.2.2.2 hn10 k
    have le := fds_le (A 288) (nt := nt) hn10 k
    refine V_iln (pc := 17) dX8_days_17 rfl rfl ?_
    refine V_iln (pc := 18) dX8_days_18 rfl rfl ?_
    refine V_cge (pc := 19) (t := 51) dX8_days_19 (by decide) (fun h19 => ?_) (fun h19 => ?_)
    · exact absurd h19 (nI_ge (by omega) (by omega))
    · refine V_aln (pc := 22) dX8_days_22 rfl rfl ?_
      refine V_gr (pc := 23) 8 0 256 dX8_days_23 (FL_X8_10 rfl) rfl rfl hC.1 hC.rl ?_
      refine V_gie (pc := 26) 7 5 229 dX8_days_26 (FL_X8_145 rfl) rfl rfl (hS.k 0 (by decide) rfl) (hW.1 229 0 3 (by decide)) ?_
      refine V_sipush (pc := 29) (v := 9999) dX8_days_29 (by decide) ?_
      refine V_cge (pc := 32) (t := 51) dX8_days_32 (by decide) (fun h32 => ?_) (fun h32 => ?_)
      · have e := fds_end (A 288) n nt k (Int32.not_lt.mpr h32) (c + 1)
        rw [show k + (c + 1) = N by omega] at e
        rw [e] at h
        refine V_iln (pc := 51) dX8_days_51 rfl rfl ?_
        refine V_iret (pc := 52) dX8_days_52 rfl rfl ?_
        exact h S hF hW
      · have e : fds (A 288) n nt (k + 1) = (fday (fds (A 288) n nt k).1 n nt, (fds (A 288) n nt k).2 + (dayF (fds (A 288) n nt k).1 nt n).2) := by
          show (if (fds (A 288) n nt k).1 3 < 9999 then _ else _) = _
          rw [if_pos (Int32.not_le.mp h32)]
        refine V_iln (pc := 35) dX8_days_35 rfl rfl ?_
        refine V_aln (pc := 36) dX8_days_36 rfl rfl ?_
        refine V_gr (pc := 37) 8 0 256 dX8_days_37 (FL_X8_10 rfl) rfl rfl hC.1 hC.rl ?_
        refine V_cVi0 (pc := 40) (jc_X8_148 dX8_days_40 rfl) rfl rfl (Nat.le_of_ble_eq_true rfl) (hS.k 0 (by decide) rfl) ?_
        refine w_passDay hS hW M2.1.1 hn10 M2.2.1.1 M2.2.1.2 hX hV (fun S2 f2 W2 => ?_)
        refine V_iadd (pc := 43) dX8_days_43 ?_
        refine V_isn (pc := 44) (fun y => [(0, .ref cc), (1, .int (nI N)), (2, .int y), (3, .int (nI k))]) dX8_days_44 rfl (by decide) (fun _ => rfl) (fun y44 ey44 => ?_)
        obtain rfl : y44 = nI ((fds (A 288) n nt (k + 1)).2) := by rw [ey44]; rw [nI_add, e]
        refine V_inc (pc := 45) (fun y => [(0, .ref cc), (1, .int (nI N)), (2, .int (nI ((fds (A 288) n nt (k + 1)).2))), (3, .int y)]) (w := 1) dX8_days_45 (by decide) (by decide) rfl (fun _ => rfl) (fun y45 ey45 => ?_)
        obtain rfl : y45 = nI (k + 1) := by rw [ey45]; exact nI_1 _
        refine V_goto (pc := 48) (t := 17) dX8_days_48 (by decide) ?_
        exact ih (k + 1) (by omega) S2 (hF.tr f2) (by rw [e]; exact W2)
set_option maxRecDepth 100000 in
set_option maxHeartbeats 1000000 in
theorem C_days {x : pX} {d : Nat} {S : pS} {Q : Int32 → pS → Prop} {cc m : Nat} {lv im tr ct as : Nat → Nat} {A : Nat → Nat → Int32} {F : Nat → Int32} {n nt np : Nat} (hI : IV S cc m lv im tr ct as A F n nt np) {v : Int32} (h : ∀ S2 n2 nt2 np2, NX S S2 cc m lv im tr ct as (uA A (o_days (A 288) n nt v).2) (F) n2 nt2 np2 → Q ((o_days (A 288) n nt v).1) S2) : PI x (d + 8) M_X8_days [.ref cc, .int v] S Q := by
  have hC := hI.1
  have hMF := hI.2.1
  have hS := hC.wl
  have hW := hI.2.2.1.1
  have hX := hI.2.2.1.2.1
  have hMI := hI.2.2.1.2.2.1
  have hV := hI.2.2.1.2.2.2
  have hn := hMI.1.1
  have hn10 := hMI.1.2
  have ht := hMI.2.1.1
  have ht14 := hMI.2.1.2
  have hp := hMI.2.2.1.1
  have hp20 := hMI.2.2.1.2
  refine PM_of (by decide +kernel) (Nat.le_of_ble_eq_true rfl) ?_
  show V x (d + 8) M_X8_days (qi Q) (0, 0) 0 [(0, .ref cc), (1, .int v)] [] S
  refine V_iln (pc := 0) dX8_days_0 rfl rfl ?_
  refine V_iconst (pc := 1) (v := 1) dX8_days_1 (by decide) ?_
  refine V_bipush (pc := 2) (v := 60) dX8_days_2 (by decide) ?_
  refine V_cSi0 (pc := 4) (jc_X8_56 dX8_days_4 rfl) rfl rfl (Nat.le_of_ble_eq_true rfl) ?_
  refine c_within (1) (60) (by decide) (by decide) (fun a1 a2 => ?_) (fun a0 => ?_)
  · obtain ⟨q, hq, eq⟩ := int_n (v := v) (N := 60) (by omega) a2 (by decide)
    subst eq
    have tq : (nI q).toInt = q := nI_toInt (by omega)
    have cq : (nI q).toNatClampNeg = q := nI_clamp (by omega)
    refine V_ne (pc := 7) (t := 13) dX8_days_7 (by decide) (fun _ => ?_) (fun h => absurd h (by decide))
    refine V_iconst (pc := 13) (v := 0) dX8_days_13 (by decide) ?_
    refine V_isn (pc := 14) (fun y => [(0, .ref cc), (1, .int (nI q)), (2, .int y)]) dX8_days_14 rfl (by decide) (fun _ => rfl) (fun y14 ey14 => ?_)
    obtain rfl : y14 = nI 0 := ey14
    refine V_iconst (pc := 15) (v := 0) dX8_days_15 (by decide) ?_
    refine V_isn (pc := 16) (fun y => [(0, .ref cc), (1, .int (nI q)), (2, .int (nI 0)), (3, .int y)]) dX8_days_16 rfl (by decide) (fun _ => rfl) (fun y16 ey16 => ?_)
    obtain rfl : y16 = nI 0 := ey16
    refine C_days_L hI hq (fun S2 f2 W2 => ?_) q 0 (by omega) S wfr.rf hW
    have mm := fds_mk (A 288) (nt := nt) hn10 q
    have e : o_days (A 288) n nt (nI q) = (nI (fds (A 288) n nt q).2, (fds (A 288) n nt q).1) := by unfold o_days; rw [if_pos (by omega), cq]
    rw [e] at h
    exact h S2 _ _ _ (hI.live f2 W2 mm.l (hMI.same mm) (fds_VI nt hV hn10 q))
  · refine V_ne (pc := 7) (t := 13) dX8_days_7 (by decide) (fun h => absurd h (by decide)) (fun _ => ?_)
    refine V_ldc (pc := 10) dX8_days_10 (KC_X8_60 rfl) ?_
    refine V_iret (pc := 12) dX8_days_12 rfl rfl ?_
    have e : o_days (A 288) n nt v = (-1000000001, A 288) := by unfold o_days; rw [if_neg (by omega)]
    rw [e] at h
    exact h S _ _ _ (NX.rfu hI)
set_option maxRecDepth 100000 in
set_option maxHeartbeats 1000000 in
theorem C_page {x : pX} {d : Nat} {S : pS} {Q : Int32 → pS → Prop} {cc m : Nat} {lv im tr ct as : Nat → Nat} {A : Nat → Nat → Int32} {F : Nat → Int32} {n nt np : Nat} (hI : IV S cc m lv im tr ct as A F n nt np) {i v : Int32} (h : ∀ S2 n2 nt2 np2, NX S S2 cc m lv im tr ct as (A) (F) n2 nt2 np2 → Q (o_page (A 288) n np i v) S2) : PI x (d + 4) M_X8_page [.ref cc, .int i, .int v] S Q := by
  have hC := hI.1
  have hMF := hI.2.1
  have hS := hC.wl
  have hW := hI.2.2.1.1
  have hX := hI.2.2.1.2.1
  have hMI := hI.2.2.1.2.2.1
  have hV := hI.2.2.1.2.2.2
  have hn := hMI.1.1
  have hn10 := hMI.1.2
  have ht := hMI.2.1.1
  have ht14 := hMI.2.1.2
  have hp := hMI.2.2.1.1
  have hp20 := hMI.2.2.1.2
  refine PM_of (by decide +kernel) (Nat.le_of_ble_eq_true rfl) ?_
  show V x (d + 4) M_X8_page (qi Q) (0, 0) 0 [(0, .ref cc), (1, .int i), (2, .int v)] [] S
  refine V_iln (pc := 0) dX8_page_0 rfl rfl ?_
  refine V_iconst (pc := 1) (v := 0) dX8_page_1 (by decide) ?_
  refine V_iconst (pc := 2) (v := 3) dX8_page_2 (by decide) ?_
  refine V_cSi0 (pc := 3) (jc_X8_56 dX8_page_3 rfl) rfl rfl (Nat.le_of_ble_eq_true rfl) ?_
  refine c_within (0) (3) (by decide) (by decide) (fun a1 a2 => ?_) (fun a0 => ?_)
  · obtain ⟨q, hq, eq⟩ := int_n (v := v) (N := 3) (by omega) a2 (by decide)
    subst eq
    have tq : (nI q).toInt = q := nI_toInt (by omega)
    have cq : (nI q).toNatClampNeg = q := nI_clamp (by omega)
    refine V_ne (pc := 6) (t := 12) dX8_page_6 (by decide) (fun _ => ?_) (fun h => absurd h (by decide))
    refine V_aln (pc := 12) dX8_page_12 rfl rfl ?_
    refine V_gr (pc := 13) 8 0 256 dX8_page_13 (FL_X8_10 rfl) rfl rfl hC.1 hC.rl ?_
    refine V_gr (pc := 16) 7 3 227 dX8_page_16 (FL_X8_125 rfl) rfl rfl (hS.k 0 (by decide) rfl) hS.2.2.1.2.2.1 ?_
    refine V_iln (pc := 19) dX8_page_19 rfl rfl ?_
    refine V_cVi0 (pc := 20) (jc_X8_151 dX8_page_20 rfl) rfl rfl (Nat.le_of_ble_eq_true rfl) (hS.k 3 (by decide) rfl) ?_
    refine b_has hS hW hp hp20 (fun k hk ek tk ck => ?_) (fun n0 => ?_)
    · subst ek
      refine V_ne (pc := 23) (t := 29) dX8_page_23 (by decide) (fun _ => ?_) (fun h => absurd h (by decide))
      refine V_iln (pc := 29) dX8_page_29 rfl rfl ?_
      refine V_iconst (pc := 30) (v := 3) dX8_page_30 (by decide) ?_
      refine V_cne (pc := 31) (t := 52) dX8_page_31 (by decide) (fun h31 => ?_) (fun h31 => ?_)
      · refine V_aln (pc := 52) dX8_page_52 rfl rfl ?_
        refine V_gr (pc := 53) 8 0 256 dX8_page_53 (FL_X8_10 rfl) rfl rfl hC.1 hC.rl ?_
        refine V_gr (pc := 56) 7 3 227 dX8_page_56 (FL_X8_125 rfl) rfl rfl (hS.k 0 (by decide) rfl) hS.2.2.1.2.2.1 ?_
        refine V_iln (pc := 59) dX8_page_59 rfl rfl ?_
        refine V_iln (pc := 60) dX8_page_60 rfl rfl ?_
        refine V_cVi0 (pc := 61) (jc_X8_159 dX8_page_61 rfl) rfl rfl (Nat.le_of_ble_eq_true rfl) (hS.k 3 (by decide) rfl) ?_
        refine b_read hS hW hp hp20 hk (by omega) ?_
        refine V_iret (pc := 64) dX8_page_64 rfl rfl ?_
        have q3 : q < 3 := by rcases (show q < 3 ∨ q = 3 by omega) with w | w; exact w; exact absurd (by rw [w]; rfl) h31
        have e : o_page (A 288) n np (nI k) (nI q) = A 288 (54 + 5 * k + q) := by unfold o_page; rw [if_pos (by omega), if_pos (by omega), if_pos (lt_toInt.mpr (by rw [tq]; exact (show (q : Int) < 3 by omega))), ck, cq]
        rw [e] at h
        exact h S _ _ _ (NX.rf hI)
      · refine V_aln (pc := 34) dX8_page_34 rfl rfl ?_
        refine V_gr (pc := 35) 8 0 256 dX8_page_35 (FL_X8_10 rfl) rfl rfl hC.1 hC.rl ?_
        refine V_iln (pc := 38) dX8_page_38 rfl rfl ?_
        refine V_iconst (pc := 39) (v := 0) dX8_page_39 (by decide) ?_
        refine V_cVi0 (pc := 40) (jc_X8_155 dX8_page_40 rfl) rfl rfl (Nat.le_of_ble_eq_true rfl) (hS.k 0 (by decide) rfl) ?_
        refine w_fits hS hW hn hn10 (w := 0) hp hp20 hk (fun y1 => ?_) (fun y0 => ?_)
        · rw [show ((0 : Int32) ^^^ (-1)) = -1 from by decide] at y1
          refine V_eq (pc := 43) (t := 50) dX8_page_43 (by decide) (fun h => absurd h (by decide)) (fun _ => ?_)
          refine V_iconst (pc := 46) (v := 1) dX8_page_46 (by decide) ?_
          refine V_goto (pc := 47) (t := 51) dX8_page_47 (by decide) ?_
          refine V_iret (pc := 51) dX8_page_51 rfl rfl ?_
          have q3 : q = 3 := (nI_eq (b := 3) (by omega) (by decide)).mp h31
          subst q3
          have e : o_page (A 288) n np (nI k) (nI 3) = if ffit (A 288) n k (-1) then 1 else 0 := by unfold o_page; rw [if_pos (by decide), if_pos (by omega), if_neg (by decide), ck]
          rw [e] at h
          first
            | (rw [if_pos y1] at h; exact h S _ _ _ (NX.rf hI))
            | (rw [if_neg y0] at h; exact h S _ _ _ (NX.rf hI))
        · rw [show ((0 : Int32) ^^^ (-1)) = -1 from by decide] at y0
          refine V_eq (pc := 43) (t := 50) dX8_page_43 (by decide) (fun _ => ?_) (fun h => absurd h (by decide))
          refine V_iconst (pc := 50) (v := 0) dX8_page_50 (by decide) ?_
          refine V_iret (pc := 51) dX8_page_51 rfl rfl ?_
          have q3 : q = 3 := (nI_eq (b := 3) (by omega) (by decide)).mp h31
          subst q3
          have e : o_page (A 288) n np (nI k) (nI 3) = if ffit (A 288) n k (-1) then 1 else 0 := by unfold o_page; rw [if_pos (by decide), if_pos (by omega), if_neg (by decide), ck]
          rw [e] at h
          first
            | (rw [if_pos y1] at h; exact h S _ _ _ (NX.rf hI))
            | (rw [if_neg y0] at h; exact h S _ _ _ (NX.rf hI))
    · refine V_ne (pc := 23) (t := 29) dX8_page_23 (by decide) (fun h => absurd h (by decide)) (fun _ => ?_)
      refine V_ldc (pc := 26) dX8_page_26 (KC_X8_154 rfl) ?_
      refine V_iret (pc := 28) dX8_page_28 rfl rfl ?_
      have e : o_page (A 288) n np i (nI q) = -1000000005 := by unfold o_page; rw [if_pos (by omega), if_neg n0]
      rw [e] at h
      exact h S _ _ _ (NX.rf hI)
  · refine V_ne (pc := 6) (t := 12) dX8_page_6 (by decide) (fun h => absurd h (by decide)) (fun _ => ?_)
    refine V_ldc (pc := 9) dX8_page_9 (KC_X8_60 rfl) ?_
    refine V_iret (pc := 11) dX8_page_11 rfl rfl ?_
    have e : o_page (A 288) n np i v = -1000000001 := by unfold o_page; rw [if_neg (by omega)]
    rw [e] at h
    exact h S _ _ _ (NX.rf hI)
theorem wst_tl {σ τ : Nat → Int32} (h : tl σ τ) (t : Nat) (nm p0 : Nat → Int32) : ∀ k, wst τ t nm p0 k = wst σ t nm p0 k
  | 0 => rfl
  | k + 1 => by unfold wst; rw [wst_tl h t nm p0 k, h _ (by omega), h _ (by omega)]
theorem wkd_tl {σ τ : Nat → Int32} (h : tl σ τ) (t many : Nat) (nm : Nat → Int32) : wkd τ t many nm = wkd σ t many nm := by unfold wkd; rw [wst_tl h]
theorem floss_tl {σ τ : Nat → Int32} (h : tl σ τ) (nt w : Nat) (g t : Int32) (h0 : τ (14 + 4 * w + 0) = σ (14 + 4 * w + 0)) (h1 : τ (14 + 4 * w + 1) = σ (14 + 4 * w + 1)) : floss τ nt w g t = floss σ nt w g t := by
  unfold floss fplain
  rw [h0, h1, fcnt_tl h, wkd_tl h, h _ (by omega)]
theorem shP_up (σ : Nat → Int32) {k : Nat} (hk : k < 54) (v : Int32) : upd (shP σ 95) k v = shP (upd σ k v) 95 := by
  funext j
  unfold shP
  by_cases e : j = k
  · subst e; rw [pk_us, if_neg (by omega), pk_us]
  · rw [pk_un e]
    split
    · rw [pk_un (by omega)]
    · rw [pk_un e]
theorem pg5_up (σ : Nat → Int32) (q : Nat) (l r al ar s : Int32) {k : Nat} (hk : 14 ≤ k ∧ k < 54) (v : Int32) : upd (pg5 σ q l r al ar s) k v = pg5 (upd σ k v) q l r al ar s := by
  unfold pg5
  rw [upd_comm (j := k) (by omega), upd_comm (j := k) (by omega), upd_comm (j := k) (by omega), upd_comm (j := k) (by omega), upd_comm (j := k) (by omega), upd_comm (j := k) (by omega)]
theorem sPage_up (σ : Nat → Int32) (np : Nat) (l r al ar s : Int32) {k : Nat} (hk : 14 ≤ k ∧ k < 54) (v : Int32) : upd (sPage σ np l r al ar s) k v = sPage (upd σ k v) np l r al ar s := by
  unfold sPage
  split
  · rw [pg5_up _ _ _ _ _ _ _ hk, upd_comm (i := 5) (j := k) (by omega), shP_up _ (by omega)]
  · rw [pg5_up _ _ _ _ _ _ _ hk]
theorem pg5_at (σ : Nat → Int32) (q : Nat) (l r al ar s : Int32) {k : Nat} (hk : k ≠ 5 ∧ (k < 54 ∨ 59 + 5 * q ≤ k)) : pg5 σ q l r al ar s k = σ k := by
  unfold pg5
  rw [pk_un (by omega), pk_un (by omega), pk_un (by omega), pk_un (by omega), pk_un (by omega), pk_un (by omega)]
theorem sPage_at (σ : Nat → Int32) {np : Nat} (hp : np ≤ 20) (l r al ar s : Int32) {k : Nat} (hk : k ≠ 5 ∧ (k < 54 ∨ 154 ≤ k)) : sPage σ np l r al ar s k = σ k := by
  unfold sPage
  split
  · rw [pg5_at _ _ _ _ _ _ _ (by omega), pk_un (by omega)]; unfold shP; rw [if_neg (by omega)]
  · rw [pg5_at _ _ _ _ _ _ _ (by omega)]
theorem sPage_tl (σ : Nat → Int32) {np : Nat} (hp : np ≤ 20) (l r al ar s : Int32) : tl σ (sPage σ np l r al ar s) := fun k hk => sPage_at σ hp l r al ar s (by omega)
theorem wear1_page (σ : Nat → Int32) {np : Nat} (hp : np ≤ 20) (nt : Nat) (l r al ar s : Int32) {k : Nat} (hk : k < 10) : wear1 (sPage σ np l r al ar s) nt k = sPage (wear1 σ nt k) np l r al ar s := by
  unfold wear1
  rw [sPage_at σ hp l r al ar s (k := 14 + 4 * k + 2) (by omega), sPage_at σ hp l r al ar s (k := 14 + 4 * k + 3) (by omega), floss_tl (sPage_tl σ hp l r al ar s) nt k _ _ (sPage_at σ hp l r al ar s (by omega)) (sPage_at σ hp l r al ar s (by omega)), sPage_up _ _ _ _ _ _ _ (by omega), sPage_up _ _ _ _ _ _ _ (by omega)]
theorem wr_page (σ : Nat → Int32) {np : Nat} (hp : np ≤ 20) (nt : Nat) (set l r al ar s : Int32) : ∀ k, k ≤ 10 → wr (sPage σ np l r al ar s) nt set k = sPage (wr σ nt set k) np l r al ar s
  | 0, _ => rfl
  | k + 1, hk => by
    unfold wr
    rw [wr_page σ hp nt set l r al ar s k (by omega), wear1_page _ hp nt l r al ar s (by omega)]
    split <;> rfl
theorem wr_arm (σ : Nat → Int32) (nt : Nat) (set : Int32) : ∀ k, k ≤ 10 → ∀ j, 6 ≤ j → j < 14 → wr σ nt set k j = σ j
  | 0, _, j, _, _ => rfl
  | k + 1, hk, j, h1, h2 => by
    unfold wr
    split
    · unfold wear1
      rw [pk_un (by omega), pk_un (by omega)]
      exact wr_arm σ nt set k (by omega) j h1 h2
    · exact wr_arm σ nt set k (by omega) j h1 h2
theorem sPage_VI {σ : Nat → Int32} {n np : Nat} (h : VI σ n) (hn : n ≤ 10) (hp : np ≤ 20) (l r al ar s : Int32) : VI (sPage σ np l r al ar s) n := by
  refine ⟨fun i hi => ?_, ?_⟩
  · rw [sPage_at σ hp l r al ar s (by omega), sPage_at σ hp l r al ar s (by omega), sPage_at σ hp l r al ar s (by omega)]; exact h.1 i hi
  · rw [sPage_at σ hp l r al ar s (by omega)]; exact h.2
set_option maxRecDepth 100000 in
set_option maxHeartbeats 1000000 in
theorem C_weigh {x : pX} {d : Nat} {S : pS} {Q : Int32 → pS → Prop} {cc m : Nat} {lv im tr ct as : Nat → Nat} {A : Nat → Nat → Int32} {F : Nat → Int32} {n nt np : Nat} (hI : IV S cc m lv im tr ct as A F n nt np) {b l r : Int32} (h : ∀ S2 n2 nt2 np2, NX S S2 cc m lv im tr ct as (uA A (o_weigh (A 288) n nt np b l r).2) (F) n2 nt2 np2 → Q ((o_weigh (A 288) n nt np b l r).1) S2) : PI x (d + 7) M_X8_weigh [.ref cc, .int b, .int l, .int r] S Q := by
  have hC := hI.1
  have hMF := hI.2.1
  have hS := hC.wl
  have hW := hI.2.2.1.1
  have hX := hI.2.2.1.2.1
  have hMI := hI.2.2.1.2.2.1
  have hV := hI.2.2.1.2.2.2
  have hn := hMI.1.1
  have hn10 := hMI.1.2
  have ht := hMI.2.1.1
  have ht14 := hMI.2.1.2
  have hp := hMI.2.2.1.1
  have hp20 := hMI.2.2.1.2
  refine PM_of (by decide +kernel) (Nat.le_of_ble_eq_true rfl) ?_
  show V x (d + 7) M_X8_weigh (qi Q) (0, 0) 0 [(0, .ref cc), (1, .int b), (2, .int l), (3, .int r)] [] S
  refine V_aln (pc := 0) dX8_weigh_0 rfl rfl ?_
  refine V_iln (pc := 1) dX8_weigh_1 rfl rfl ?_
  refine V_iln (pc := 2) dX8_weigh_2 rfl rfl ?_
  refine V_iln (pc := 3) dX8_weigh_3 rfl rfl ?_
  refine V_cVi0 (pc := 4) (jc_X8_117 dX8_weigh_4 rfl) rfl rfl (Nat.le_of_ble_eq_true rfl) hC.1 ?_
  refine C_sayOr hI ?_
  refine V_is (pc := 7) (fun y => [(0, .ref cc), (1, .int b), (2, .int l), (3, .int r), (4, .int y)]) dX8_weigh_7 (by decide) (fun _ => rfl) (fun y7 ey7 => ?_)
  refine V_il (pc := 9) dX8_weigh_9 rfl ?_
  refine V_lt (pc := 11) (t := 56) dX8_weigh_11 (by decide) (fun h11 => ?_) (fun h11 => ?_)
  · rw [ey7] at h11
    refine V_il (pc := 56) dX8_weigh_56 rfl ?_
    refine V_iret (pc := 58) dX8_weigh_58 rfl rfl ?_
    first
      | (have e : o_weigh (A 288) n nt np b l r = (o_said (A 288) n b l r, A 288) := by unfold o_weigh; rw [if_pos h11]
         rw [e] at h; rw [ey7]; exact h S _ _ _ (NX.rfu hI))
      | (have e : o_weigh (A 288) n nt np (nI bn) l r = (o_said (A 288) n (nI bn) l r, sPage (wr (A 288) nt (l ||| r) n) np l r ((wr (A 288) nt (l ||| r) n) (6 + 2 * bn + 0)) ((wr (A 288) nt (l ||| r) n) (6 + 2 * bn + 1)) (o_said (A 288) n (nI bn) l r)) := by
           unfold o_weigh; rw [if_neg h11, wr_page _ hp20 _ _ _ _ _ _ _ n hn10, ar _ (by omega) (by omega), ar _ (by omega) (by omega), cbn]; rfl
         rw [e] at h; rw [ey7] at W3 ⊢
         exact h S3 _ _ _ (hI.live (f2.tr f3) W3 (m2.l.tr (sPage_tl _ hp20 _ _ _ _ _)) (sPage_MI (hMI.same m2) _ _ _ _ _) (sPage_VI (wr_VI nt _ hV hn10 n (Nat.le_refl _)) hn10 hp20 _ _ _ _ _)))
  · rw [ey7] at h11
    have hb := o_said_b h11
    obtain ⟨bn, hbn, eb⟩ := int_n (v := b) (N := 3) hb.1 hb.2 (by decide)
    subst eb
    have cbn : (nI bn).toNatClampNeg = bn := nI_clamp (by omega)
    refine V_aln (pc := 14) dX8_weigh_14 rfl rfl ?_
    refine V_gr (pc := 15) 8 0 256 dX8_weigh_15 (FL_X8_10 rfl) rfl rfl hC.1 hC.rl ?_
    refine V_iln (pc := 18) dX8_weigh_18 rfl rfl ?_
    refine V_iln (pc := 19) dX8_weigh_19 rfl rfl ?_
    refine V_ior (pc := 20) dX8_weigh_20 ?_
    refine V_cVv0 (pc := 21) (jc_X8_121 dX8_weigh_21 rfl) rfl rfl (Nat.le_of_ble_eq_true rfl) (hS.k 0 (by decide) rfl) ?_
    refine w_wearAll hS hW hn hn10 ht ht14 hX (fun S2 f2 W2 => ?_)
    have hS2 := hS.f f2
    have hC2 := hC.sp f2.1
    have m2 := wr_mk (A 288) nt (l ||| r) n hn10
    · have ar : ∀ k, 6 ≤ k → k < 14 → (wr (A 288) nt (l ||| r) n) k = A 288 k := fun k h1 h2 => wr_arm (A 288) nt (l ||| r) n hn10 k h1 h2
      refine V_aln (pc := 24) dX8_weigh_24 rfl rfl ?_
      refine V_gr (pc := 25) 8 0 256 dX8_weigh_25 (FL_X8_10 rfl) rfl rfl hC2.1 hC2.rl ?_
      refine V_gr (pc := 28) 7 3 227 dX8_weigh_28 (FL_X8_125 rfl) rfl rfl (hS2.k 0 (by decide) rfl) hS2.2.2.1.2.2.1 ?_
      refine V_iln (pc := 31) dX8_weigh_31 rfl rfl ?_
      refine V_iln (pc := 32) dX8_weigh_32 rfl rfl ?_
      refine V_il (pc := 33) dX8_weigh_33 rfl ?_
      refine V_aln (pc := 35) dX8_weigh_35 rfl rfl ?_
      refine V_gr (pc := 36) 8 0 256 dX8_weigh_36 (FL_X8_10 rfl) rfl rfl hC2.1 hC2.rl ?_
      refine V_iln (pc := 39) dX8_weigh_39 rfl rfl ?_
      refine V_iconst (pc := 40) (v := 0) dX8_weigh_40 (by decide) ?_
      refine V_cVi0 (pc := 41) (jc_X8_104 dX8_weigh_41 rfl) rfl rfl (Nat.le_of_ble_eq_true rfl) (hS2.k 0 (by decide) rfl) ?_
      refine w_armAt hS2 W2 (s := 0) (by omega) (by decide) ?_
      refine V_aln (pc := 44) dX8_weigh_44 rfl rfl ?_
      refine V_gr (pc := 45) 8 0 256 dX8_weigh_45 (FL_X8_10 rfl) rfl rfl hC2.1 hC2.rl ?_
      refine V_iln (pc := 48) dX8_weigh_48 rfl rfl ?_
      refine V_iconst (pc := 49) (v := 1) dX8_weigh_49 (by decide) ?_
      refine V_cVi0 (pc := 50) (jc_X8_104 dX8_weigh_50 rfl) rfl rfl (Nat.le_of_ble_eq_true rfl) (hS2.k 0 (by decide) rfl) ?_
      refine w_armAt hS2 W2 (s := 1) (by omega) (by decide) ?_
      refine V_cVv0 (pc := 53) (jc_X8_129 dX8_weigh_53 rfl) rfl rfl (Nat.le_of_ble_eq_true rfl) (hS2.k 3 (by decide) rfl) ?_
      refine b_write hS2 W2 (np := np) ((m2 5 (by decide)).trans hp) hp20 (fun S3 f3 W3 => ?_)
      refine V_il (pc := 56) dX8_weigh_56 rfl ?_
      refine V_iret (pc := 58) dX8_weigh_58 rfl rfl ?_
      first
        | (have e : o_weigh (A 288) n nt np b l r = (o_said (A 288) n b l r, A 288) := by unfold o_weigh; rw [if_pos h11]
           rw [e] at h; rw [ey7]; exact h S _ _ _ (NX.rfu hI))
        | (have e : o_weigh (A 288) n nt np (nI bn) l r = (o_said (A 288) n (nI bn) l r, sPage (wr (A 288) nt (l ||| r) n) np l r ((wr (A 288) nt (l ||| r) n) (6 + 2 * bn + 0)) ((wr (A 288) nt (l ||| r) n) (6 + 2 * bn + 1)) (o_said (A 288) n (nI bn) l r)) := by
             unfold o_weigh; rw [if_neg h11, wr_page _ hp20 _ _ _ _ _ _ _ n hn10, ar _ (by omega) (by omega), ar _ (by omega) (by omega), cbn]; rfl
           rw [e] at h; rw [ey7] at W3 ⊢
           exact h S3 _ _ _ (hI.live (f2.tr f3) W3 (m2.l.tr (sPage_tl _ hp20 _ _ _ _ _)) (sPage_MI (hMI.same m2) _ _ _ _ _) (sPage_VI (wr_VI nt _ hV hn10 n (Nat.le_refl _)) hn10 hp20 _ _ _ _ _)))
