/-! ===== the class's own methods: what comes out ===== -/
/-- the spare weight stands for weight i, worn k times -/
def SPR (S : pS) (lv : Nat → Nat) (σ : Nat → Int32) (nt i k : Nat) : Prop := gI S 192 (lv 7) = σ (14 + 4 * i + 0) ∧ gI S 193 (lv 7) = σ (14 + 4 * i + 1) ∧ gI S 194 (lv 7) = (bh σ nt i k).1 ∧ gI S 195 (lv 7) = (bh σ nt i k).2
theorem gI_s4 (S : pS) (a : Nat) (k s g t : Int32) : gI (s4 S a k s g t) 192 a = k ∧ gI (s4 S a k s g t) 193 a = s ∧ gI (s4 S a k s g t) 194 a = g ∧ gI (s4 S a k s g t) 195 a = t := by
  unfold s4
  refine ⟨?_, ?_, ?_, ?_⟩
  · rw [gI_sI, if_neg (by omega), gI_sI, if_neg (by omega), gI_sI, if_neg (by omega), gI_sI, if_pos ⟨rfl, rfl⟩]
  · rw [gI_sI, if_neg (by omega), gI_sI, if_neg (by omega), gI_sI, if_pos ⟨rfl, rfl⟩]
  · rw [gI_sI, if_neg (by omega), gI_sI, if_pos ⟨rfl, rfl⟩]
  · rw [gI_sI, if_pos ⟨rfl, rfl⟩]
theorem wr_s47 {P : pS} {ad : Nat → Nat} {σ : Nat → Int32} (h : WR P ad σ) (hS : WS P ad) (k s g t : Int32) : WR (s4 P (ad 7) k s g t) ad σ := (((h.sp7 hS 192 k).sp7 hS 193 s).sp7 hS 194 g).sp7 hS 195 t
theorem w_spareAt {x : pX} {d : Nat} {S : pS} {Q : Option Nat → pS → Prop} {ad : Nat → Nat} {σ : Nat → Int32} (hS : WS S ad) (hW : WR S ad σ) {i : Nat} (nt : Nat) (hi : i < 10) (h : ∀ S2, wfr ad S S2 → WR S2 ad σ → SPR S2 ad σ nt i 0 → Q (some (ad 7)) S2) : PR x (d + 2) M_X7_spareOf [.ref (ad 0), .ref (ad (10 + i))] S Q := by
  refine w_spareOf hS hW (hS.w hi) ?_
  rw [hW.1 192 (10 + i) (14 + 4 * i + 0) (by unfold cI; omega), hW.1 193 (10 + i) (14 + 4 * i + 1) (by unfold cI; omega), hW.1 194 (10 + i) (14 + 4 * i + 2) (by unfold cI; omega), hW.1 195 (10 + i) (14 + 4 * i + 3) (by unfold cI; omega)]
  exact h _ (wfr.rf.s4 (i := 7) (by decide) (by decide) (by decide) _ _ _ _) (wr_s47 hW hS _ _ _ _) (gI_s4 S (ad 7) _ _ _ _)
theorem w_wearSp {x : pX} {d : Nat} {S : pS} {Q : pS → Prop} {ad : Nat → Nat} {σ : Nat → Int32} (hS : WS S ad) (hW : WR S ad σ) {nt : Nat} (ht : σ 1 = nI nt) (ht14 : nt ≤ 14) (hX : TX S ad σ nt) {i k : Nat} (hP : SPR S ad σ nt i k) (h : ∀ S2, wfr ad S S2 → WR S2 ad σ → SPR S2 ad σ nt i (k + 1) → Q S2) : PV x (d + 5) M_X7_wearOnce [.ref (ad 0), .ref (ad 7)] S Q := by
  refine w_wearOnce hS hW ht ht14 hX (hS.k 7 (by decide) rfl) (fun S2 z2 => ?_)
  have hS2 := hS.z z2
  obtain ⟨p1, p2, p3, p4⟩ := hP
  refine h _ (((z2.w ad).I (i := 7) (by decide) (by decide) (by decide) _ _).I (i := 7) (by decide) (by decide) (by decide) _ _) (((hW.z hS z2).sp7 hS2 _ _).sp7 (show WS (sI S2 194 (ad 7) _) ad from hS2) _ _) ⟨?_, ?_, ?_, ?_⟩
  · rw [gI_sI, if_neg (by omega), gI_sI, if_neg (by omega), z2.2.1]; exact p1
  · rw [gI_sI, if_neg (by omega), gI_sI, if_neg (by omega), z2.2.1]; exact p2
  · rw [gI_sI, if_neg (by omega), gI_sI, if_pos ⟨rfl, rfl⟩, p1, p2, p3, p4]; rfl
  · rw [gI_sI, if_pos ⟨rfl, rfl⟩, p4]; rfl
set_option maxRecDepth 100000 in
set_option maxHeartbeats 1000000 in
theorem C_behind_L {x : pX} {d : Nat} {b : Nat × Nat} {Q : Int32 → pS → Prop} {S0 : pS} {cc m : Nat} {lv im tr ct as : Nat → Nat} {A : Nat → Nat → Int32} {F : Nat → Int32} {n nt np : Nat} (hI : IV S0 cc m lv im tr ct as A F n nt np) {i N : Nat} (hN : N ≤ 500) (h : ∀ S2, wfr lv S0 S2 → WR S2 lv (A 288) → Q ((bh (A 288) nt i N).1) S2) : ∀ (c k : Nat), k + c = N → ∀ (S : pS), wfr lv S0 S → WR S lv (A 288) → SPR S lv (A 288) nt i k → V x (d + 6) M_X8_behind (qi Q) b 40 [(0, .ref cc), (2, .int (nI N)), (4, .ref ((lv 7))), (5, .int (nI k))] [] S := by
  intro c
  induction c with
  | zero =>
    intro k hk S hF hW hP
    have hC := hI.1.sp hF.1
    have hS := hI.1.wl.f hF
    have hMI := hI.2.2.1.2.2.1
    have hX := hI.2.2.1.2.1.w hI.1.wl hF tl.rf
    refine V_il (pc := 40) dX8_behind_40 rfl ?_
    refine V_iln (pc := 42) dX8_behind_42 rfl rfl ?_
    refine V_cge (pc := 43) (t := 61) dX8_behind_43 (by decide) (fun h43 => ?_) (fun h43 => ?_)
    · refine V_al (pc := 61) dX8_behind_61 rfl ?_
      refine V_gie (pc := 63) 6 2 194 dX8_behind_63 (FL_X8_83 rfl) rfl rfl (hS.k 7 (by decide) rfl) hP.2.2.1 ?_
      refine V_iret (pc := 66) dX8_behind_66 rfl rfl ?_
      obtain rfl : k = N := by omega
      exact h S hF hW
    · exact absurd (nI_le (by omega) (by omega)) h43
  | succ c ih =>
    intro k hk S hF hW hP
    have hC := hI.1.sp hF.1
    have hS := hI.1.wl.f hF
    have hMI := hI.2.2.1.2.2.1
    have hX := hI.2.2.1.2.1.w hI.1.wl hF tl.rf
    refine V_il (pc := 40) dX8_behind_40 rfl ?_
    refine V_iln (pc := 42) dX8_behind_42 rfl rfl ?_
    refine V_cge (pc := 43) (t := 61) dX8_behind_43 (by decide) (fun h43 => ?_) (fun h43 => ?_)
    · exact absurd h43 (nI_ge (by omega) (by omega))
    · refine V_aln (pc := 46) dX8_behind_46 rfl rfl ?_
      refine V_gr (pc := 47) 8 0 256 dX8_behind_47 (FL_X8_10 rfl) rfl rfl hC.1 hC.rl ?_
      refine V_al (pc := 50) dX8_behind_50 rfl ?_
      refine V_cVv0 (pc := 52) (jc_X8_166 dX8_behind_52 rfl) rfl rfl (Nat.le_of_ble_eq_true rfl) (hS.k 0 (by decide) rfl) ?_
      refine w_wearSp hS hW hMI.2.1.1 hMI.2.1.2 hX hP (fun S2 f2 W2 P2 => ?_)
      refine V_inc (pc := 55) (fun y => [(0, .ref cc), (2, .int (nI N)), (4, .ref ((lv 7))), (5, .int y)]) (w := 1) dX8_behind_55 (by decide) (by decide) rfl (fun _ => rfl) (fun y55 ey55 => ?_)
      obtain rfl : y55 = nI (k + 1) := by rw [ey55]; exact nI_1 _
      refine V_goto (pc := 58) (t := 40) dX8_behind_58 (by decide) ?_
      exact ih (k + 1) (by omega) S2 (hF.tr f2) W2 P2
set_option maxRecDepth 100000 in
set_option maxHeartbeats 1000000 in
theorem C_behind {x : pX} {d : Nat} {S : pS} {Q : Int32 → pS → Prop} {cc m : Nat} {lv im tr ct as : Nat → Nat} {A : Nat → Nat → Int32} {F : Nat → Int32} {n nt np : Nat} (hI : IV S cc m lv im tr ct as A F n nt np) {w v : Int32} (h : ∀ S2 n2 nt2 np2, NX S S2 cc m lv im tr ct as (A) (F) n2 nt2 np2 → Q (o_behind (A 288) n nt w v) S2) : PI x (d + 6) M_X8_behind [.ref cc, .int w, .int v] S Q := by
  have hC := hI.1
  have hMF := hI.2.1
  have hS := hC.wl
  have hW := hI.2.2.1.1
  have hX := hI.2.2.1.2.1
  have hMI := hI.2.2.1.2.2.1
  have hV := hI.2.2.1.2.2.2
  have hn := hMI.1.1
  have hn10 := hMI.1.2
  have ht := hMI.2.1.1
  have ht14 := hMI.2.1.2
  have hp := hMI.2.2.1.1
  have hp20 := hMI.2.2.1.2
  refine PM_of (by decide +kernel) (Nat.le_of_ble_eq_true rfl) ?_
  show V x (d + 6) M_X8_behind (qi Q) (0, 0) 0 [(0, .ref cc), (1, .int w), (2, .int v)] [] S
  refine V_aln (pc := 0) dX8_behind_0 rfl rfl ?_
  refine V_gr (pc := 1) 8 0 256 dX8_behind_1 (FL_X8_10 rfl) rfl rfl hC.1 hC.rl ?_
  refine V_iln (pc := 4) dX8_behind_4 rfl rfl ?_
  refine V_cVr0 (pc := 5) (jc_X8_70 dX8_behind_5 rfl) rfl rfl (Nat.le_of_ble_eq_true rfl) (hS.k 0 (by decide) rfl) ?_
  refine w_weightAt hS hW hn hn10 (fun i hi ei ti ci => ?_) (fun n0 => ?_)
  · subst ei
    refine V_asn (pc := 8) (ls' := [(0, .ref cc), (1, .int (nI i)), (2, .int v), (3, .ref ((lv (10 + i))))]) dX8_behind_8 rfl (by decide) rfl ?_
    refine V_aln (pc := 9) dX8_behind_9 rfl rfl ?_
    refine V_ifnull (pc := 10) (t := 24) dX8_behind_10 (by decide) ?_
    refine V_iln (pc := 13) dX8_behind_13 rfl rfl ?_
    refine V_iconst (pc := 14) (v := 0) dX8_behind_14 (by decide) ?_
    refine V_sipush (pc := 15) (v := 500) dX8_behind_15 (by decide) ?_
    refine V_cSi0 (pc := 18) (jc_X8_56 dX8_behind_18 rfl) rfl rfl (Nat.le_of_ble_eq_true rfl) ?_
    refine c_within (0) (500) (by decide) (by decide) (fun a1 a2 => ?_) (fun a0 => ?_)
    · obtain ⟨q, hq, eq⟩ := int_n (v := v) (N := 500) (by omega) a2 (by decide)
      subst eq
      have tq : (nI q).toInt = q := nI_toInt (by omega)
      have cq : (nI q).toNatClampNeg = q := nI_clamp (by omega)
      refine V_ne (pc := 21) (t := 27) dX8_behind_21 (by decide) (fun _ => ?_) (fun h => absurd h (by decide))
      refine V_aln (pc := 27) dX8_behind_27 rfl rfl ?_
      refine V_gr (pc := 28) 8 0 256 dX8_behind_28 (FL_X8_10 rfl) rfl rfl hC.1 hC.rl ?_
      refine V_aln (pc := 31) dX8_behind_31 rfl rfl ?_
      refine V_cVr0 (pc := 32) (jc_X8_162 dX8_behind_32 rfl) rfl rfl (Nat.le_of_ble_eq_true rfl) (hS.k 0 (by decide) rfl) ?_
      refine w_spareAt hS hW nt (by omega) (fun S2 f2 W2 P2 => ?_)
      have hC2 := hC.sp f2.1
      have hS2 := hS.f f2
      · refine V_as (pc := 35) (ls' := [(0, .ref cc), (1, .int (nI i)), (2, .int (nI q)), (3, .ref ((lv (10 + i)))), (4, .ref ((lv 7)))]) dX8_behind_35 (by decide) rfl ?_
        refine V_iconst (pc := 37) (v := 0) dX8_behind_37 (by decide) ?_
        refine V_is (pc := 38) (fun y => [(0, .ref cc), (1, .int (nI i)), (2, .int (nI q)), (3, .ref ((lv (10 + i)))), (4, .ref ((lv 7))), (5, .int y)]) dX8_behind_38 (by decide) (fun _ => rfl) (fun y38 ey38 => ?_)
        obtain rfl : y38 = nI 0 := ey38
        refine V_lp [0, 2, 4, 5] (ls' := [(0, .ref cc), (2, .int (nI q)), (4, .ref ((lv 7))), (5, .int (nI 0))]) rfl ?_
        refine C_behind_L hI hq (fun S3 f3 W3 => ?_) q 0 (by omega) S2 f2 W2 P2
        have e : o_behind (A 288) n nt (nI i) (nI q) = (bh (A 288) nt i q).1 := by unfold o_behind; rw [if_pos (by omega), ci, cq]
        rw [e] at h
        exact h S3 _ _ _ (hI.calm f3 W3)
    · refine V_ne (pc := 21) (t := 27) dX8_behind_21 (by decide) (fun h => absurd h (by decide)) (fun _ => ?_)
      refine V_ldc (pc := 24) dX8_behind_24 (KC_X8_60 rfl) ?_
      refine V_iret (pc := 26) dX8_behind_26 rfl rfl ?_
      unfold o_behind at h
      rw [if_neg (by omega)] at h
      exact h S _ _ _ (NX.rf hI)
  · refine V_asnN (pc := 8) (ls' := [(0, .ref cc), (1, .int w), (2, .int v), (3, .null)]) dX8_behind_8 rfl (by decide) rfl ?_
    refine V_alNn (pc := 9) dX8_behind_9 rfl rfl ?_
    refine V_ifnullN (pc := 10) (t := 24) dX8_behind_10 (by decide) ?_
    refine V_ldc (pc := 24) dX8_behind_24 (KC_X8_60 rfl) ?_
    refine V_iret (pc := 26) dX8_behind_26 rfl rfl ?_
    unfold o_behind at h
    rw [if_neg (by omega)] at h
    exact h S _ _ _ (NX.rf hI)
set_option maxRecDepth 100000 in
set_option maxHeartbeats 1000000 in
theorem C_lasts_L {x : pX} {d : Nat} {b : Nat × Nat} {Q : Int32 → pS → Prop} {S0 : pS} {cc m : Nat} {lv im tr ct as : Nat → Nat} {A : Nat → Nat → Int32} {F : Nat → Int32} {n nt np : Nat} (hI : IV S0 cc m lv im tr ct as A F n nt np) {i r : Nat} {g : Int32} (h : ∀ S2, wfr lv S0 S2 → WR S2 lv (A 288) → Q (nI r) S2) : ∀ (c k : Nat), k + c = 999 → ∀ (S : pS), wfr lv S0 S → WR S lv (A 288) → SPR S lv (A 288) nt i k → flast (A 288) nt i g c k = r → V x (d + 6) M_X8_lasts (qi Q) b 40 [(0, .ref cc), (2, .int g), (4, .ref ((lv 7))), (5, .int (nI k))] [] S := by
  intro c
  induction c with
  | zero =>
    intro k hk S hF hW hP hr
    have hC := hI.1.sp hF.1
    have hS := hI.1.wl.f hF
    have hMI := hI.2.2.1.2.2.1
    have hX := hI.2.2.1.2.1.w hI.1.wl hF tl.rf
    refine V_il (pc := 40) dX8_lasts_40 rfl ?_
    refine V_sipush (pc := 42) (v := 999) dX8_lasts_42 (by decide) ?_
    refine V_cge (pc := 45) (t := 72) dX8_lasts_45 (by decide) (fun h45 => ?_) (fun h45 => ?_)
    · refine V_il (pc := 72) dX8_lasts_72 rfl ?_
      refine V_iret (pc := 74) dX8_lasts_74 rfl rfl ?_
      subst hr
      exact h S hF hW
    · exact absurd (nI_le (a := 999) (by omega) (by omega)) h45
  | succ c ih =>
    intro k hk S hF hW hP hr
    have hC := hI.1.sp hF.1
    have hS := hI.1.wl.f hF
    have hMI := hI.2.2.1.2.2.1
    have hX := hI.2.2.1.2.1.w hI.1.wl hF tl.rf
    refine V_il (pc := 40) dX8_lasts_40 rfl ?_
    refine V_sipush (pc := 42) (v := 999) dX8_lasts_42 (by decide) ?_
    refine V_cge (pc := 45) (t := 72) dX8_lasts_45 (by decide) (fun h45 => ?_) (fun h45 => ?_)
    · exact absurd h45 (nI_ge (b := 999) (by omega) (by decide))
    · refine V_al (pc := 48) dX8_lasts_48 rfl ?_
      refine V_gie (pc := 50) 6 2 194 dX8_lasts_50 (FL_X8_83 rfl) rfl rfl (hS.k 7 (by decide) rfl) hP.2.2.1 ?_
      refine V_iln (pc := 53) dX8_lasts_53 rfl rfl ?_
      refine V_clt (pc := 54) (t := 72) dX8_lasts_54 (by decide) (fun h54 => ?_) (fun h54 => ?_)
      · have e : flast (A 288) nt i g (c + 1) k = k := by
          show (if g ≤ (bh (A 288) nt i k).1 then _ else k) = k
          rw [if_neg (Int32.not_le.mpr h54)]
        rw [e] at hr
        subst hr
        refine V_il (pc := 72) dX8_lasts_72 rfl ?_
        refine V_iret (pc := 74) dX8_lasts_74 rfl rfl ?_
        exact h S hF hW
      · have e : flast (A 288) nt i g (c + 1) k = flast (A 288) nt i g c (k + 1) := by
          show (if g ≤ (bh (A 288) nt i k).1 then _ else k) = _
          rw [if_pos (Int32.not_lt.mp h54)]
        rw [e] at hr
        refine V_aln (pc := 57) dX8_lasts_57 rfl rfl ?_
        refine V_gr (pc := 58) 8 0 256 dX8_lasts_58 (FL_X8_10 rfl) rfl rfl hC.1 hC.rl ?_
        refine V_al (pc := 61) dX8_lasts_61 rfl ?_
        refine V_cVv0 (pc := 63) (jc_X8_166 dX8_lasts_63 rfl) rfl rfl (Nat.le_of_ble_eq_true rfl) (hS.k 0 (by decide) rfl) ?_
        refine w_wearSp hS hW hMI.2.1.1 hMI.2.1.2 hX hP (fun S2 f2 W2 P2 => ?_)
        refine V_inc (pc := 66) (fun y => [(0, .ref cc), (2, .int g), (4, .ref ((lv 7))), (5, .int y)]) (w := 1) dX8_lasts_66 (by decide) (by decide) rfl (fun _ => rfl) (fun y66 ey66 => ?_)
        obtain rfl : y66 = nI (k + 1) := by rw [ey66]; exact nI_1 _
        refine V_goto (pc := 69) (t := 40) dX8_lasts_69 (by decide) ?_
        exact ih (k + 1) (by omega) S2 (hF.tr f2) W2 P2 hr
set_option maxRecDepth 100000 in
set_option maxHeartbeats 1000000 in
theorem C_lasts {x : pX} {d : Nat} {S : pS} {Q : Int32 → pS → Prop} {cc m : Nat} {lv im tr ct as : Nat → Nat} {A : Nat → Nat → Int32} {F : Nat → Int32} {n nt np : Nat} (hI : IV S cc m lv im tr ct as A F n nt np) {w g : Int32} (h : ∀ S2 n2 nt2 np2, NX S S2 cc m lv im tr ct as (A) (F) n2 nt2 np2 → Q (o_lasts (A 288) n nt w g) S2) : PI x (d + 6) M_X8_lasts [.ref cc, .int w, .int g] S Q := by
  have hC := hI.1
  have hMF := hI.2.1
  have hS := hC.wl
  have hW := hI.2.2.1.1
  have hX := hI.2.2.1.2.1
  have hMI := hI.2.2.1.2.2.1
  have hV := hI.2.2.1.2.2.2
  have hn := hMI.1.1
  have hn10 := hMI.1.2
  have ht := hMI.2.1.1
  have ht14 := hMI.2.1.2
  have hp := hMI.2.2.1.1
  have hp20 := hMI.2.2.1.2
  refine PM_of (by decide +kernel) (Nat.le_of_ble_eq_true rfl) ?_
  show V x (d + 6) M_X8_lasts (qi Q) (0, 0) 0 [(0, .ref cc), (1, .int w), (2, .int g)] [] S
  refine V_aln (pc := 0) dX8_lasts_0 rfl rfl ?_
  refine V_gr (pc := 1) 8 0 256 dX8_lasts_1 (FL_X8_10 rfl) rfl rfl hC.1 hC.rl ?_
  refine V_iln (pc := 4) dX8_lasts_4 rfl rfl ?_
  refine V_cVr0 (pc := 5) (jc_X8_70 dX8_lasts_5 rfl) rfl rfl (Nat.le_of_ble_eq_true rfl) (hS.k 0 (by decide) rfl) ?_
  refine w_weightAt hS hW hn hn10 (fun i hi ei ti ci => ?_) (fun n0 => ?_)
  · subst ei
    refine V_asn (pc := 8) (ls' := [(0, .ref cc), (1, .int (nI i)), (2, .int g), (3, .ref ((lv (10 + i))))]) dX8_lasts_8 rfl (by decide) rfl ?_
    refine V_aln (pc := 9) dX8_lasts_9 rfl rfl ?_
    refine V_ifnull (pc := 10) (t := 24) dX8_lasts_10 (by decide) ?_
    refine V_iln (pc := 13) dX8_lasts_13 rfl rfl ?_
    refine V_iconst (pc := 14) (v := 1) dX8_lasts_14 (by decide) ?_
    refine V_sipush (pc := 15) (v := 999) dX8_lasts_15 (by decide) ?_
    refine V_cSi0 (pc := 18) (jc_X8_56 dX8_lasts_18 rfl) rfl rfl (Nat.le_of_ble_eq_true rfl) ?_
    refine c_within (1) (999) (by decide) (by decide) (fun a1 a2 => ?_) (fun a0 => ?_)
    · refine V_ne (pc := 21) (t := 27) dX8_lasts_21 (by decide) (fun _ => ?_) (fun h => absurd h (by decide))
      refine V_aln (pc := 27) dX8_lasts_27 rfl rfl ?_
      refine V_gr (pc := 28) 8 0 256 dX8_lasts_28 (FL_X8_10 rfl) rfl rfl hC.1 hC.rl ?_
      refine V_aln (pc := 31) dX8_lasts_31 rfl rfl ?_
      refine V_cVr0 (pc := 32) (jc_X8_162 dX8_lasts_32 rfl) rfl rfl (Nat.le_of_ble_eq_true rfl) (hS.k 0 (by decide) rfl) ?_
      refine w_spareAt hS hW nt (by omega) (fun S2 f2 W2 P2 => ?_)
      have hC2 := hC.sp f2.1
      have hS2 := hS.f f2
      · refine V_as (pc := 35) (ls' := [(0, .ref cc), (1, .int (nI i)), (2, .int g), (3, .ref ((lv (10 + i)))), (4, .ref ((lv 7)))]) dX8_lasts_35 (by decide) rfl ?_
        refine V_iconst (pc := 37) (v := 0) dX8_lasts_37 (by decide) ?_
        refine V_is (pc := 38) (fun y => [(0, .ref cc), (1, .int (nI i)), (2, .int g), (3, .ref ((lv (10 + i)))), (4, .ref ((lv 7))), (5, .int y)]) dX8_lasts_38 (by decide) (fun _ => rfl) (fun y38 ey38 => ?_)
        obtain rfl : y38 = nI 0 := ey38
        refine V_lp [0, 2, 4, 5] (ls' := [(0, .ref cc), (2, .int g), (4, .ref ((lv 7))), (5, .int (nI 0))]) rfl ?_
        refine C_lasts_L hI (fun S3 f3 W3 => ?_) 999 0 (by omega) S2 f2 W2 P2 rfl
        have e : o_lasts (A 288) n nt (nI i) g = nI (flast (A 288) nt i g 999 0) := by unfold o_lasts; rw [if_pos (by omega), ci]
        rw [e] at h
        exact h S3 _ _ _ (hI.calm f3 W3)
    · refine V_ne (pc := 21) (t := 27) dX8_lasts_21 (by decide) (fun h => absurd h (by decide)) (fun _ => ?_)
      refine V_ldc (pc := 24) dX8_lasts_24 (KC_X8_60 rfl) ?_
      refine V_iret (pc := 26) dX8_lasts_26 rfl rfl ?_
      unfold o_lasts at h
      rw [if_neg (by omega)] at h
      exact h S _ _ _ (NX.rf hI)
  · refine V_asnN (pc := 8) (ls' := [(0, .ref cc), (1, .int w), (2, .int g), (3, .null)]) dX8_lasts_8 rfl (by decide) rfl ?_
    refine V_alNn (pc := 9) dX8_lasts_9 rfl rfl ?_
    refine V_ifnullN (pc := 10) (t := 24) dX8_lasts_10 (by decide) ?_
    refine V_ldc (pc := 24) dX8_lasts_24 (KC_X8_60 rfl) ?_
    refine V_iret (pc := 26) dX8_lasts_26 rfl rfl ?_
    unfold o_lasts at h
    rw [if_neg (by omega)] at h
    exact h S _ _ _ (NX.rf hI)
set_option maxRecDepth 100000 in
set_option maxHeartbeats 1000000 in
theorem C_canWeigh {x : pX} {d : Nat} {S : pS} {Q : Int32 → pS → Prop} {cc m : Nat} {lv im tr ct as : Nat → Nat} {A : Nat → Nat → Int32} {F : Nat → Int32} {n nt np : Nat} (hI : IV S cc m lv im tr ct as A F n nt np) {s : Int32} (h : ∀ S2 n2 nt2 np2, NX S S2 cc m lv im tr ct as (A) (F) n2 nt2 np2 → Q (o_can (A 288) n s) S2) : PI x (d + 4) M_X8_canWeigh [.ref cc, .int s] S Q := by
  have hC := hI.1
  have hMF := hI.2.1
  have hS := hC.wl
  have hW := hI.2.2.1.1
  have hX := hI.2.2.1.2.1
  have hMI := hI.2.2.1.2.2.1
  have hV := hI.2.2.1.2.2.2
  have hn := hMI.1.1
  have hn10 := hMI.1.2
  have ht := hMI.2.1.1
  have ht14 := hMI.2.1.2
  have hp := hMI.2.2.1.1
  have hp20 := hMI.2.2.1.2
  have p1 := p10 hn10
  refine PM_of (by decide +kernel) (Nat.le_of_ble_eq_true rfl) ?_
  show V x (d + 4) M_X8_canWeigh (qi Q) (0, 0) 0 [(0, .ref cc), (1, .int s)] [] S
  refine V_aln (pc := 0) dX8_canWeigh_0 rfl rfl ?_
  refine V_gr (pc := 1) 8 0 256 dX8_canWeigh_1 (FL_X8_10 rfl) rfl rfl hC.1 hC.rl ?_
  refine V_iln (pc := 4) dX8_canWeigh_4 rfl rfl ?_
  refine V_cVi0 (pc := 5) (jc_X8_170 dX8_canWeigh_5 rfl) rfl rfl (Nat.le_of_ble_eq_true rfl) (hS.k 0 (by decide) rfl) ?_
  refine w_isSet hS hW hn hn10 (fun l1 l2 => ?_) (fun l0 => ?_)
  · obtain ⟨L, hL, eL, tL, cL⟩ := idx_of (n := 2 ^ n) (by omega) l1 l2
    subst eL
    refine V_ne (pc := 8) (t := 14) dX8_canWeigh_8 (by decide) (fun _ => ?_) (fun h => absurd h (by decide))
    refine V_aln (pc := 14) dX8_canWeigh_14 rfl rfl ?_
    refine V_gr (pc := 15) 8 0 256 dX8_canWeigh_15 (FL_X8_10 rfl) rfl rfl hC.1 hC.rl ?_
    refine V_cVv0 (pc := 18) (jc_X8_173 dX8_canWeigh_18 rfl) rfl rfl (Nat.le_of_ble_eq_true rfl) (hS.k 0 (by decide) rfl) ?_
    refine w_sort hS hW hn hn10 (fun S2 o f2 W2 ho hg => ?_)
    have hC2 := hC.sp f2.1
    have hS2 := hS.f f2
    · refine V_aln (pc := 21) dX8_canWeigh_21 rfl rfl ?_
      refine V_gr (pc := 22) 8 0 256 dX8_canWeigh_22 (FL_X8_10 rfl) rfl rfl hC2.1 hC2.rl ?_
      refine V_iln (pc := 25) dX8_canWeigh_25 rfl rfl ?_
      refine V_cVi0 (pc := 26) (jc_X8_176 dX8_canWeigh_26 rfl) rfl rfl (Nat.le_of_ble_eq_true rfl) (hS2.k 0 (by decide) rfl) ?_
      refine w_reachOf hS2 W2 hn hn10 (L := L) (by omega) ho hg ?_
      refine V_iret (pc := 29) dX8_canWeigh_29 rfl rfl ?_
      rw [rch_eq hn10 ho hL]
      have e : o_can (A 288) n (nI L) = fcan (A 288) n 1024 L 0 := by unfold o_can; rw [if_pos ⟨l1, l2⟩, cL]
      rw [e] at h
      exact h S2 _ _ _ (hI.calm f2 W2)
  · refine V_ne (pc := 8) (t := 14) dX8_canWeigh_8 (by decide) (fun h => absurd h (by decide)) (fun _ => ?_)
    refine V_ldc (pc := 11) dX8_canWeigh_11 (KC_X8_60 rfl) ?_
    refine V_iret (pc := 13) dX8_canWeigh_13 rfl rfl ?_
    have e : o_can (A 288) n s = -1000000001 := by unfold o_can; rw [if_neg l0]
    rw [e] at h
    exact h S _ _ _ (NX.rf hI)
def few : Option Nat → Nat
  | none => 11
  | some j => fones j 10
theorem few_le (o : Option Nat) : few o ≤ 11 := by
  cases o with
  | none => exact Nat.le_refl _
  | some j => exact Nat.le_trans (fones_le j 10) (by decide)
theorem fsm_s (σ : Nat → Int32) (n : Nat) (v : Int32) (k : Nat) : fsm σ n v (k + 1) = if fones k 10 < few (fsm σ n v k) ∧ v ≤ fcan σ n 1024 k 0 then some k else fsm σ n v k := by
  have q := fones_le k 10
  show (match fsm σ n v k with | none => _ | some b => _) = _
  cases e : fsm σ n v k with
  | none =>
    show (if v ≤ fcan σ n 1024 k 0 then some k else none) = if fones k 10 < 11 ∧ v ≤ fcan σ n 1024 k 0 then some k else none
    by_cases w : v ≤ fcan σ n 1024 k 0
    · rw [if_pos w, if_pos ⟨by omega, w⟩]
    · rw [if_neg w, if_neg (fun r => w r.2)]
  | some b => rfl
theorem fsm_1 (σ : Nat → Int32) (n : Nat) {v : Int32} (h : 1 ≤ v.toInt) : fsm σ n v 1 = none := by
  show (if v ≤ fcan σ n 1024 0 0 then some 0 else none) = none
  have e : fcan σ n 1024 0 0 = 0 := rfl
  rw [e, if_neg]
  intro w
  have := le_toInt.mp w
  have z : (0 : Int32).toInt = 0 := rfl
  omega
set_option maxRecDepth 100000 in
set_option maxHeartbeats 1000000 in
theorem C_smallest_L {x : pX} {d : Nat} {S2 : pS} {b : Nat × Nat} {Q : Int32 → pS → Prop} {cc : Nat} {lv im tr ct as : Nat → Nat} {A : Nat → Nat → Int32} {n N : Nat} (hC2 : CS S2 cc lv im tr ct as) (hS2 : WS S2 lv) (W2 : WR S2 lv (A 288)) (hn : A 288 0 = nI n) (hn10 : n ≤ 10) (hN : N = 2 ^ n) (hN2 : N ≤ 1024) {o : Nat → Nat} (ho : SRT (A 288) o n) (hg : ∀ j, j < n → gX S2 (lv 8) j = nI (o j)) {v : Int32} (h : Q (orN (fsm (A 288) n v N)) S2) : ∀ (c k : Nat), k + c = N → V x (d + 2) M_X8_smallest (qi Q) b 39 [(0, .ref cc), (1, .int v), (2, .int (orN (fsm (A 288) n v k))), (3, .int (nI ((few (fsm (A 288) n v k))))), (4, .int (nI N)), (5, .int (nI k))] [] S2 := by
  intro c
  induction c with
  | zero =>
    intro k hk 
    have fl := few_le (fsm (A 288) n v k)
    refine V_il (pc := 39) dX8_smallest_39 rfl ?_
    refine V_il (pc := 41) dX8_smallest_41 rfl ?_
    refine V_cge (pc := 43) (t := 84) dX8_smallest_43 (by decide) (fun h43 => ?_) (fun h43 => ?_)
    · refine V_iln (pc := 84) dX8_smallest_84 rfl rfl ?_
      refine V_iret (pc := 85) dX8_smallest_85 rfl rfl ?_
      obtain rfl : k = N := by omega
      exact h
    · exact absurd (nI_le (by omega) (by omega)) h43
  | succ c ih =>
    intro k hk 
    have fl := few_le (fsm (A 288) n v k)
    refine V_il (pc := 39) dX8_smallest_39 rfl ?_
    refine V_il (pc := 41) dX8_smallest_41 rfl ?_
    refine V_cge (pc := 43) (t := 84) dX8_smallest_43 (by decide) (fun h43 => ?_) (fun h43 => ?_)
    · exact absurd h43 (nI_ge (by omega) (by omega))
    · refine V_il (pc := 46) dX8_smallest_46 rfl ?_
      refine V_cSi0 (pc := 48) (jc_X8_183 dX8_smallest_48 rfl) rfl rfl (Nat.le_of_ble_eq_true rfl) ?_
      refine j_bitCount (r := nI (fones k 10)) (jbc_ones k (by omega)) ?_
      refine V_is (pc := 51) (fun y => [(0, .ref cc), (1, .int v), (2, .int (orN (fsm (A 288) n v k))), (3, .int (nI ((few (fsm (A 288) n v k))))), (4, .int (nI N)), (5, .int (nI k)), (6, .int y)]) dX8_smallest_51 (by decide) (fun _ => rfl) (fun y51 ey51 => ?_)
      subst ey51
      refine V_il (pc := 53) dX8_smallest_53 rfl ?_
      refine V_iln (pc := 55) dX8_smallest_55 rfl rfl ?_
      refine V_cge (pc := 56) (t := 78) dX8_smallest_56 (by decide) (fun h56 => ?_) (fun h56 => ?_)
      · have w : ¬ fones k 10 < few (fsm (A 288) n v k) := fun q => nI_ge q (by omega) h56
        have e : fsm (A 288) n v (k + 1) = (fsm (A 288) n v k) := by rw [fsm_s, if_neg (fun q => w q.1)]
        refine V_inc (pc := 78) (fun y => [(0, .ref cc), (1, .int v), (2, .int (orN (fsm (A 288) n v k))), (3, .int (nI ((few (fsm (A 288) n v k))))), (4, .int (nI N)), (5, .int y), (6, .int (nI (fones k 10)))]) (w := 1) dX8_smallest_78 (by decide) (by decide) rfl (fun _ => rfl) (fun y78 ey78 => ?_)
        obtain rfl : y78 = nI (k + 1) := by rw [ey78]; exact nI_1 _
        refine V_goto (pc := 81) (t := 39) dX8_smallest_81 (by decide) ?_
        refine V_lp [0, 1, 2, 3, 4, 5] (ls' := [(0, .ref cc), (1, .int v), (2, .int (orN (fsm (A 288) n v k))), (3, .int (nI ((few (fsm (A 288) n v k))))), (4, .int (nI N)), (5, .int (nI (k + 1)))]) rfl ?_
        have q := ih (k + 1) (by omega)
        rw [e] at q
        exact q
      · have w : fones k 10 < few (fsm (A 288) n v k) := Nat.lt_of_not_le (fun q => h56 (nI_le q (by have := fones_le k 10; omega)))
        refine V_aln (pc := 59) dX8_smallest_59 rfl rfl ?_
        refine V_gr (pc := 60) 8 0 256 dX8_smallest_60 (FL_X8_10 rfl) rfl rfl hC2.1 hC2.rl ?_
        refine V_il (pc := 63) dX8_smallest_63 rfl ?_
        refine V_cVi0 (pc := 65) (jc_X8_176 dX8_smallest_65 rfl) rfl rfl (Nat.le_of_ble_eq_true rfl) (hS2.k 0 (by decide) rfl) ?_
        refine w_reachOf hS2 W2 hn hn10 (L := k) (by omega) ho hg ?_
        rw [rch_eq hn10 ho (by omega)]
        refine V_iln (pc := 68) dX8_smallest_68 rfl rfl ?_
        refine V_clt (pc := 69) (t := 78) dX8_smallest_69 (by decide) (fun h69 => ?_) (fun h69 => ?_)
        · have e : fsm (A 288) n v (k + 1) = (fsm (A 288) n v k) := by rw [fsm_s, if_neg (fun q => Int32.not_le.mpr h69 q.2)]
          refine V_inc (pc := 78) (fun y => [(0, .ref cc), (1, .int v), (2, .int (orN (fsm (A 288) n v k))), (3, .int (nI ((few (fsm (A 288) n v k))))), (4, .int (nI N)), (5, .int y), (6, .int (nI (fones k 10)))]) (w := 1) dX8_smallest_78 (by decide) (by decide) rfl (fun _ => rfl) (fun y78 ey78 => ?_)
          obtain rfl : y78 = nI (k + 1) := by rw [ey78]; exact nI_1 _
          refine V_goto (pc := 81) (t := 39) dX8_smallest_81 (by decide) ?_
          refine V_lp [0, 1, 2, 3, 4, 5] (ls' := [(0, .ref cc), (1, .int v), (2, .int (orN (fsm (A 288) n v k))), (3, .int (nI ((few (fsm (A 288) n v k))))), (4, .int (nI N)), (5, .int (nI (k + 1)))]) rfl ?_
          have q := ih (k + 1) (by omega)
          rw [e] at q
          exact q
        · have e : fsm (A 288) n v (k + 1) = some k := by rw [fsm_s, if_pos ⟨w, Int32.not_lt.mp h69⟩]
          refine V_il (pc := 72) dX8_smallest_72 rfl ?_
          refine V_isn (pc := 74) (fun y => [(0, .ref cc), (1, .int v), (2, .int (orN (fsm (A 288) n v k))), (3, .int y), (4, .int (nI N)), (5, .int (nI k)), (6, .int (nI (fones k 10)))]) dX8_smallest_74 rfl (by decide) (fun _ => rfl) (fun y74 ey74 => ?_)
          subst ey74
          refine V_il (pc := 75) dX8_smallest_75 rfl ?_
          refine V_isn (pc := 77) (fun y => [(0, .ref cc), (1, .int v), (2, .int y), (3, .int (nI (fones k 10))), (4, .int (nI N)), (5, .int (nI k)), (6, .int (nI (fones k 10)))]) dX8_smallest_77 rfl (by decide) (fun _ => rfl) (fun y77 ey77 => ?_)
          subst ey77
          refine V_inc (pc := 78) (fun y => [(0, .ref cc), (1, .int v), (2, .int (nI k)), (3, .int (nI (fones k 10))), (4, .int (nI N)), (5, .int y), (6, .int (nI (fones k 10)))]) (w := 1) dX8_smallest_78 (by decide) (by decide) rfl (fun _ => rfl) (fun y78 ey78 => ?_)
          obtain rfl : y78 = nI (k + 1) := by rw [ey78]; exact nI_1 _
          refine V_goto (pc := 81) (t := 39) dX8_smallest_81 (by decide) ?_
          refine V_lp [0, 1, 2, 3, 4, 5] (ls' := [(0, .ref cc), (1, .int v), (2, .int (nI k)), (3, .int (nI (fones k 10))), (4, .int (nI N)), (5, .int (nI (k + 1)))]) rfl ?_
          have q := ih (k + 1) (by omega)
          rw [e] at q
          exact q
set_option maxRecDepth 100000 in
set_option maxHeartbeats 1000000 in
theorem C_smallest {x : pX} {d : Nat} {S : pS} {Q : Int32 → pS → Prop} {cc m : Nat} {lv im tr ct as : Nat → Nat} {A : Nat → Nat → Int32} {F : Nat → Int32} {n nt np : Nat} (hI : IV S cc m lv im tr ct as A F n nt np) {v : Int32} (h : ∀ S2 n2 nt2 np2, NX S S2 cc m lv im tr ct as (A) (F) n2 nt2 np2 → Q (o_smallest (A 288) n v) S2) : PI x (d + 2) M_X8_smallest [.ref cc, .int v] S Q := by
  have hC := hI.1
  have hMF := hI.2.1
  have hS := hC.wl
  have hW := hI.2.2.1.1
  have hX := hI.2.2.1.2.1
  have hMI := hI.2.2.1.2.2.1
  have hV := hI.2.2.1.2.2.2
  have hn := hMI.1.1
  have hn10 := hMI.1.2
  have ht := hMI.2.1.1
  have ht14 := hMI.2.1.2
  have hp := hMI.2.2.1.1
  have hp20 := hMI.2.2.1.2
  have p1 := p10 hn10
  have p2 : 0 < 2 ^ n := Nat.two_pow_pos n
  refine PM_of (by decide +kernel) (Nat.le_of_ble_eq_true rfl) ?_
  show V x (d + 2) M_X8_smallest (qi Q) (0, 0) 0 [(0, .ref cc), (1, .int v)] [] S
  refine V_iln (pc := 0) dX8_smallest_0 rfl rfl ?_
  refine V_iconst (pc := 1) (v := 1) dX8_smallest_1 (by decide) ?_
  refine V_sipush (pc := 2) (v := 999) dX8_smallest_2 (by decide) ?_
  refine V_cSi0 (pc := 5) (jc_X8_56 dX8_smallest_5 rfl) rfl rfl (Nat.le_of_ble_eq_true rfl) ?_
  refine c_within (1) (999) (by decide) (by decide) (fun a1 a2 => ?_) (fun a0 => ?_)
  · refine V_ne (pc := 8) (t := 14) dX8_smallest_8 (by decide) (fun _ => ?_) (fun h => absurd h (by decide))
    refine V_aln (pc := 14) dX8_smallest_14 rfl rfl ?_
    refine V_gr (pc := 15) 8 0 256 dX8_smallest_15 (FL_X8_10 rfl) rfl rfl hC.1 hC.rl ?_
    refine V_cVv0 (pc := 18) (jc_X8_173 dX8_smallest_18 rfl) rfl rfl (Nat.le_of_ble_eq_true rfl) (hS.k 0 (by decide) rfl) ?_
    refine w_sort hS hW hn hn10 (fun S2 o f2 W2 ho hg => ?_)
    have hC2 := hC.sp f2.1
    have hS2 := hS.f f2
    · refine V_ldc (pc := 21) dX8_smallest_21 (KC_X8_154 rfl) ?_
      refine V_isn (pc := 23) (fun y => [(0, .ref cc), (1, .int v), (2, .int y)]) dX8_smallest_23 rfl (by decide) (fun _ => rfl) (fun y23 ey23 => ?_)
      refine V_bipush (pc := 24) (v := 11) dX8_smallest_24 (by decide) ?_
      refine V_isn (pc := 26) (fun y => [(0, .ref cc), (1, .int v), (2, .int y23), (3, .int y)]) dX8_smallest_26 rfl (by decide) (fun _ => rfl) (fun y26 ey26 => ?_)
      obtain rfl : y26 = nI 11 := ey26
      refine V_aln (pc := 27) dX8_smallest_27 rfl rfl ?_
      refine V_gr (pc := 28) 8 0 256 dX8_smallest_28 (FL_X8_10 rfl) rfl rfl hC2.1 hC2.rl ?_
      refine V_cVi0 (pc := 31) (jc_X8_180 dX8_smallest_31 rfl) rfl rfl (Nat.le_of_ble_eq_true rfl) (hS2.k 0 (by decide) rfl) ?_
      refine w_setCount hS2 W2 hn hn10 ?_
      rw [shl1 hn10]
      refine V_is (pc := 34) (fun y => [(0, .ref cc), (1, .int v), (2, .int y23), (3, .int (nI 11)), (4, .int y)]) dX8_smallest_34 (by decide) (fun _ => rfl) (fun y34 ey34 => ?_)
      subst ey34
      refine V_iconst (pc := 36) (v := 1) dX8_smallest_36 (by decide) ?_
      refine V_is (pc := 37) (fun y => [(0, .ref cc), (1, .int v), (2, .int y23), (3, .int (nI 11)), (4, .int (nI (2 ^ n))), (5, .int y)]) dX8_smallest_37 (by decide) (fun _ => rfl) (fun y37 ey37 => ?_)
      obtain rfl : y37 = nI 1 := ey37
      subst ey23
      have q := C_smallest_L (x := x) (d := d) (b := (0, 0)) (Q := Q) hC2 hS2 W2 hn hn10 rfl p1 ho hg (v := v) (by
        have e : o_smallest (A 288) n v = orN (fsm (A 288) n v (2 ^ n)) := by unfold o_smallest; rw [if_pos ⟨a1, a2⟩]
        rw [e] at h
        exact h S2 _ _ _ (hI.calm f2 W2)) (2 ^ n - 1) 1 (by omega)
      rw [fsm_1 _ _ a1] at q
      exact q
  · refine V_ne (pc := 8) (t := 14) dX8_smallest_8 (by decide) (fun h => absurd h (by decide)) (fun _ => ?_)
    refine V_ldc (pc := 11) dX8_smallest_11 (KC_X8_60 rfl) ?_
    refine V_iret (pc := 13) dX8_smallest_13 rfl rfl ?_
    have e : o_smallest (A 288) n v = -1000000001 := by unfold o_smallest; rw [if_neg a0]
    rw [e] at h
    exact h S _ _ _ (NX.rf hI)
theorem fgn_val (σ : Nat → Int32) (n : Nat) (g : Int32) : ∀ k j, (fgn σ n g k).1 = some j → (fgn σ n g k).2 = fsum σ (nI j) 2 n
  | 0, j, h => by cases h
  | k + 1, j, h => by
    unfold fgn at h ⊢
    split at h
    · rename_i q
      rw [if_pos q]; cases h; rfl
    · rename_i q
      rw [if_neg q]; exact fgn_val σ n g k j h
set_option maxRecDepth 100000 in
set_option maxHeartbeats 1000000 in
theorem C_gain {x : pX} {d : Nat} {S : pS} {Q : Int32 → pS → Prop} {cc m : Nat} {lv im tr ct as : Nat → Nat} {A : Nat → Nat → Int32} {F : Nat → Int32} {n nt np : Nat} (hI : IV S cc m lv im tr ct as A F n nt np) {g v : Int32} (h : ∀ S2 n2 nt2 np2, NX S S2 cc m lv im tr ct as (A) (F) n2 nt2 np2 → Q (o_gain (A 288) n g v) S2) : PI x (d + 3) M_X8_gain [.ref cc, .int g, .int v] S Q := by
  have hC := hI.1
  have hMF := hI.2.1
  have hS := hC.wl
  have hW := hI.2.2.1.1
  have hX := hI.2.2.1.2.1
  have hMI := hI.2.2.1.2.2.1
  have hV := hI.2.2.1.2.2.2
  have hn := hMI.1.1
  have hn10 := hMI.1.2
  have ht := hMI.2.1.1
  have ht14 := hMI.2.1.2
  have hp := hMI.2.2.1.1
  have hp20 := hMI.2.2.1.2
  have p1 := p10 hn10
  have p2 : 0 < 2 ^ n := Nat.two_pow_pos n
  have bp : ∀ j, (fgn (A 288) n g (2 ^ n - 1)).1 = some j → 0 < j ∧ j < 2 ^ 31 := fun j q => ⟨fgn_pos _ _ _ _ j q, by have := fgn_lt _ _ _ _ j q; omega⟩
  refine PM_of (by decide +kernel) (Nat.le_of_ble_eq_true rfl) ?_
  show V x (d + 3) M_X8_gain (qi Q) (0, 0) 0 [(0, .ref cc), (1, .int g), (2, .int v)] [] S
  refine V_iln (pc := 0) dX8_gain_0 rfl rfl ?_
  refine V_iconst (pc := 1) (v := 1) dX8_gain_1 (by decide) ?_
  refine V_sipush (pc := 2) (v := 9990) dX8_gain_2 (by decide) ?_
  refine V_cSi0 (pc := 5) (jc_X8_56 dX8_gain_5 rfl) rfl rfl (Nat.le_of_ble_eq_true rfl) ?_
  refine c_within (1) (9990) (by decide) (by decide) (fun a1 a2 => ?_) (fun a0 => ?_)
  · refine V_eq (pc := 8) (t := 20) dX8_gain_8 (by decide) (fun h => absurd h (by decide)) (fun _ => ?_)
    refine V_iln (pc := 11) dX8_gain_11 rfl rfl ?_
    refine V_iconst (pc := 12) (v := 0) dX8_gain_12 (by decide) ?_
    refine V_iconst (pc := 13) (v := 1) dX8_gain_13 (by decide) ?_
    refine V_cSi0 (pc := 14) (jc_X8_56 dX8_gain_14 rfl) rfl rfl (Nat.le_of_ble_eq_true rfl) ?_
    refine c_within (0) (1) (by decide) (by decide) (fun b1 b2 => ?_) (fun b0 => ?_)
    · refine V_ne (pc := 17) (t := 23) dX8_gain_17 (by decide) (fun _ => ?_) (fun h => absurd h (by decide))
      refine V_aln (pc := 23) dX8_gain_23 rfl rfl ?_
      refine V_gr (pc := 24) 8 0 256 dX8_gain_24 (FL_X8_10 rfl) rfl rfl hC.1 hC.rl ?_
      refine V_iln (pc := 27) dX8_gain_27 rfl rfl ?_
      refine V_cVi0 (pc := 28) (jc_X8_188 dX8_gain_28 rfl) rfl rfl (Nat.le_of_ble_eq_true rfl) (hS.k 0 (by decide) rfl) ?_
      refine w_lightestFor hS hW hn hn10 ?_
      refine V_isn (pc := 31) (fun y => [(0, .ref cc), (1, .int g), (2, .int v), (3, .int y)]) dX8_gain_31 rfl (by decide) (fun _ => rfl) (fun y31 ey31 => ?_)
      refine V_iln (pc := 32) dX8_gain_32 rfl rfl ?_
      refine V_ne (pc := 33) (t := 39) dX8_gain_33 (by decide) (fun h33 => ?_) (fun h33 => ?_)
      · rw [ey31] at h33
        have nn : ¬ (fgn (A 288) n g (2 ^ n - 1)).1 = none := fun q => h33 ((bz_0 bp).mpr q)
        obtain ⟨j, ej⟩ := Option.ne_none_iff_exists'.mp nn
        have y2 : y31 = nI j := by rw [ey31, ej]; rfl
        refine V_iln (pc := 39) dX8_gain_39 rfl rfl ?_
        refine V_ne (pc := 40) (t := 56) dX8_gain_40 (by decide) (fun h40 => ?_) (fun h40 => ?_)
        · refine V_iln (pc := 56) dX8_gain_56 rfl rfl ?_
          refine V_iret (pc := 57) dX8_gain_57 rfl rfl ?_
          first
            | (have e : o_gain (A 288) n g v = g - fsum (A 288) y31 2 n := by unfold o_gain; rw [if_pos (by omega), if_neg nn, if_pos h40, fgn_val _ _ _ _ j ej, y2]
               rw [e] at h; exact h S _ _ _ (NX.rf hI))
            | (have e : o_gain (A 288) n g v = y31 := by unfold o_gain; rw [if_pos (by omega), if_neg nn, if_neg h40, ej, y2]; rfl
               rw [e] at h; exact h S _ _ _ (NX.rf hI))
        · refine V_iln (pc := 43) dX8_gain_43 rfl rfl ?_
          refine V_aln (pc := 44) dX8_gain_44 rfl rfl ?_
          refine V_gr (pc := 45) 8 0 256 dX8_gain_45 (FL_X8_10 rfl) rfl rfl hC.1 hC.rl ?_
          refine V_iln (pc := 48) dX8_gain_48 rfl rfl ?_
          refine V_cVi0 (pc := 49) (jc_X8_191 dX8_gain_49 rfl) rfl rfl (Nat.le_of_ble_eq_true rfl) (hS.k 0 (by decide) rfl) ?_
          refine w_grainsOf hS hW hn hn10 ?_
          refine V_isub (pc := 52) dX8_gain_52 ?_
          refine V_goto (pc := 53) (t := 57) dX8_gain_53 (by decide) ?_
          refine V_iret (pc := 57) dX8_gain_57 rfl rfl ?_
          first
            | (have e : o_gain (A 288) n g v = g - fsum (A 288) y31 2 n := by unfold o_gain; rw [if_pos (by omega), if_neg nn, if_pos h40, fgn_val _ _ _ _ j ej, y2]
               rw [e] at h; exact h S _ _ _ (NX.rf hI))
            | (have e : o_gain (A 288) n g v = y31 := by unfold o_gain; rw [if_pos (by omega), if_neg nn, if_neg h40, ej, y2]; rfl
               rw [e] at h; exact h S _ _ _ (NX.rf hI))
      · rw [ey31] at h33
        have nn := (bz_0 bp).mp h33
        refine V_ldc (pc := 36) dX8_gain_36 (KC_X8_154 rfl) ?_
        refine V_iret (pc := 38) dX8_gain_38 rfl rfl ?_
        have e : o_gain (A 288) n g v = -1000000005 := by unfold o_gain; rw [if_pos (by omega), if_pos nn]
        rw [e] at h
        exact h S _ _ _ (NX.rf hI)
    · refine V_ne (pc := 17) (t := 23) dX8_gain_17 (by decide) (fun h => absurd h (by decide)) (fun _ => ?_)
      refine V_ldc (pc := 20) dX8_gain_20 (KC_X8_60 rfl) ?_
      refine V_iret (pc := 22) dX8_gain_22 rfl rfl ?_
      have e : o_gain (A 288) n g v = -1000000001 := by unfold o_gain; rw [if_neg (by omega)]
      rw [e] at h
      exact h S _ _ _ (NX.rf hI)
  · refine V_eq (pc := 8) (t := 20) dX8_gain_8 (by decide) (fun _ => ?_) (fun h => absurd h (by decide))
    refine V_ldc (pc := 20) dX8_gain_20 (KC_X8_60 rfl) ?_
    refine V_iret (pc := 22) dX8_gain_22 rfl rfl ?_
    have e : o_gain (A 288) n g v = -1000000001 := by unfold o_gain; rw [if_neg (by omega)]
    rw [e] at h
    exact h S _ _ _ (NX.rf hI)
theorem gcd_lt {B G : Nat} (h1 : B ≤ 9990) (h2 : G ≤ 9990) : Nat.gcd B G < 2 ^ 31 := by
  rcases Nat.eq_zero_or_pos B with q | q
  · subst q; rw [Nat.gcd_zero_left]; omega
  · have := Nat.gcd_le_left G q; omega
theorem allS_bit : ∀ k, k < 10 → sb (allS (k + 1)) k = 1 := by decide +kernel
theorem fsum_zero {σ : Nat → Int32} {n : Nat} (h : WI σ n) (hn : n ≤ 10) (e : fsum σ (allS n) 1 n = 0) : n = 0 := by
  cases n with
  | zero => rfl
  | succ k =>
    exfalso
    obtain ⟨G, hG, eG⟩ := fsum_n (σ := σ) (allS (k + 1)) (j := 1) k (fun i hi => by obtain ⟨s, h1, h2, h3⟩ := (h i (by omega)).2.1; exact ⟨s, h2, h3⟩)
    obtain ⟨s, h1, h2, h3⟩ := (h k (by omega)).2.1
    have b1 : sb (allS (k + 1)) k = 1 := allS_bit k (by omega)
    unfold fsum at e
    rw [if_pos b1, eG, h3, nI_add] at e
    have := (nI_eq (a := G + s) (b := 0) (by omega) (by decide)).mp e
    omega
set_option maxRecDepth 100000 in
set_option maxHeartbeats 1000000 in
theorem C_pound {x : pX} {d : Nat} {S : pS} {Q : Int32 → pS → Prop} {cc m : Nat} {lv im tr ct as : Nat → Nat} {A : Nat → Nat → Int32} {F : Nat → Int32} {n nt np : Nat} (hI : IV S cc m lv im tr ct as A F n nt np) {p : Int32} (h : ∀ S2 n2 nt2 np2, NX S S2 cc m lv im tr ct as (A) (F) n2 nt2 np2 → Q (o_pound (A 288) n p) S2) : PI x (d + 3) M_X8_pound [.ref cc, .int p] S Q := by
  have hC := hI.1
  have hMF := hI.2.1
  have hS := hC.wl
  have hW := hI.2.2.1.1
  have hX := hI.2.2.1.2.1
  have hMI := hI.2.2.1.2.2.1
  have hV := hI.2.2.1.2.2.2
  have hn := hMI.1.1
  have hn10 := hMI.1.2
  have ht := hMI.2.1.1
  have ht14 := hMI.2.1.2
  have hp := hMI.2.2.1.1
  have hp20 := hMI.2.2.1.2
  obtain ⟨G, hG, eG⟩ := hV.1.g (allS n)
  obtain ⟨B, hB, eB⟩ := hV.1.s (allS n)
  have cG : (nI G).toNatClampNeg = G := nI_clamp (by omega)
  have cB : (nI B).toNatClampNeg = B := nI_clamp (by omega)
  refine PM_of (by decide +kernel) (Nat.le_of_ble_eq_true rfl) ?_
  show V x (d + 3) M_X8_pound (qi Q) (0, 0) 0 [(0, .ref cc), (1, .int p)] [] S
  refine V_iln (pc := 0) dX8_pound_0 rfl rfl ?_
  refine V_iconst (pc := 1) (v := 0) dX8_pound_1 (by decide) ?_
  refine V_iconst (pc := 2) (v := 1) dX8_pound_2 (by decide) ?_
  refine V_cSi0 (pc := 3) (jc_X8_56 dX8_pound_3 rfl) rfl rfl (Nat.le_of_ble_eq_true rfl) ?_
  refine c_within (0) (1) (by decide) (by decide) (fun a1 a2 => ?_) (fun a0 => ?_)
  · refine V_ne (pc := 6) (t := 12) dX8_pound_6 (by decide) (fun _ => ?_) (fun h => absurd h (by decide))
    refine V_aln (pc := 12) dX8_pound_12 rfl rfl ?_
    refine V_gr (pc := 13) 8 0 256 dX8_pound_13 (FL_X8_10 rfl) rfl rfl hC.1 hC.rl ?_
    refine V_aln (pc := 16) dX8_pound_16 rfl rfl ?_
    refine V_gr (pc := 17) 8 0 256 dX8_pound_17 (FL_X8_10 rfl) rfl rfl hC.1 hC.rl ?_
    refine V_cVi0 (pc := 20) (jc_X8_194 dX8_pound_20 rfl) rfl rfl (Nat.le_of_ble_eq_true rfl) (hS.k 0 (by decide) rfl) ?_
    refine w_allSet hS hW hn hn10 ?_
    refine V_cVi0 (pc := 23) (jc_X8_191 dX8_pound_23 rfl) rfl rfl (Nat.le_of_ble_eq_true rfl) (hS.k 0 (by decide) rfl) ?_
    refine w_grainsOf hS hW hn hn10 ?_
    refine V_isn (pc := 26) (fun y => [(0, .ref cc), (1, .int p), (2, .int y)]) dX8_pound_26 rfl (by decide) (fun _ => rfl) (fun y26 ey26 => ?_)
    obtain rfl : y26 = nI G := by rw [ey26]; exact eG
    refine V_aln (pc := 27) dX8_pound_27 rfl rfl ?_
    refine V_gr (pc := 28) 8 0 256 dX8_pound_28 (FL_X8_10 rfl) rfl rfl hC.1 hC.rl ?_
    refine V_aln (pc := 31) dX8_pound_31 rfl rfl ?_
    refine V_gr (pc := 32) 8 0 256 dX8_pound_32 (FL_X8_10 rfl) rfl rfl hC.1 hC.rl ?_
    refine V_cVi0 (pc := 35) (jc_X8_194 dX8_pound_35 rfl) rfl rfl (Nat.le_of_ble_eq_true rfl) (hS.k 0 (by decide) rfl) ?_
    refine w_allSet hS hW hn hn10 ?_
    refine V_cVi0 (pc := 38) (jc_X8_197 dX8_pound_38 rfl) rfl rfl (Nat.le_of_ble_eq_true rfl) (hS.k 0 (by decide) rfl) ?_
    refine w_stampsOf hS hW hn hn10 ?_
    refine V_isn (pc := 41) (fun y => [(0, .ref cc), (1, .int p), (2, .int (nI G)), (3, .int y)]) dX8_pound_41 rfl (by decide) (fun _ => rfl) (fun y41 ey41 => ?_)
    obtain rfl : y41 = nI B := by rw [ey41]; exact eB
    refine V_iln (pc := 42) dX8_pound_42 rfl rfl ?_
    refine V_iln (pc := 43) dX8_pound_43 rfl rfl ?_
    refine V_cSi0 (pc := 44) (jc_X8_200 dX8_pound_44 rfl) rfl rfl (Nat.le_of_ble_eq_true rfl) ?_
    refine c_gcd (a := B) (b := G) (by omega) (by omega) ?_
    refine V_is (pc := 47) (fun y => [(0, .ref cc), (1, .int p), (2, .int (nI G)), (3, .int (nI B)), (4, .int y)]) dX8_pound_47 (by decide) (fun _ => rfl) (fun y47 ey47 => ?_)
    subst ey47
    refine V_il (pc := 49) dX8_pound_49 rfl ?_
    refine V_ne (pc := 51) (t := 56) dX8_pound_51 (by decide) (fun h51 => ?_) (fun h51 => ?_)
    · have b0 : ¬ nI B = 0 := fun q => h51 (by
        have B0 : B = 0 := (nI_eq (b := 0) (by omega) (by decide)).mp q
        subst B0
        have n0 := fsum_zero hV.1 hn10 eB
        subst n0
        have G0 : G = 0 := by omega
        subst G0; rfl)
      have bp : 0 < B := Nat.pos_of_ne_zero (fun q => b0 (by rw [q]; rfl))
      have gl := Nat.gcd_le_left G bp
      have gp := Nat.gcd_pos_of_pos_left G bp
      have e : o_pound (A 288) n p = nI ((if p = 0 then G else B) / Nat.gcd G B) := by unfold o_pound; rw [if_pos (by omega), eG, eB, if_neg b0, cG, cB]
      rw [e, Nat.gcd_comm] at h
      refine V_iln (pc := 56) dX8_pound_56 rfl rfl ?_
      refine V_ne (pc := 57) (t := 67) dX8_pound_57 (by decide) (fun h57 => ?_) (fun h57 => ?_)
      · refine V_iln (pc := 67) dX8_pound_67 rfl rfl ?_
        refine V_il (pc := 68) dX8_pound_68 rfl ?_
        refine V_idiv (pc := 70) dX8_pound_70 h51 ?_
        refine V_iret (pc := 71) dX8_pound_71 rfl rfl ?_
        first
          | (rw [if_pos h57] at h; rw [pk_div (by omega) gp (by omega)]; exact h S _ _ _ (NX.rf hI))
          | (rw [if_neg h57] at h; rw [pk_div (by omega) gp (by omega)]; exact h S _ _ _ (NX.rf hI))
      · refine V_iln (pc := 60) dX8_pound_60 rfl rfl ?_
        refine V_il (pc := 61) dX8_pound_61 rfl ?_
        refine V_idiv (pc := 63) dX8_pound_63 h51 ?_
        refine V_goto (pc := 64) (t := 71) dX8_pound_64 (by decide) ?_
        refine V_iret (pc := 71) dX8_pound_71 rfl rfl ?_
        first
          | (rw [if_pos h57] at h; rw [pk_div (by omega) gp (by omega)]; exact h S _ _ _ (NX.rf hI))
          | (rw [if_neg h57] at h; rw [pk_div (by omega) gp (by omega)]; exact h S _ _ _ (NX.rf hI))
    · have g0 : Nat.gcd B G = 0 := (nI_eq (b := 0) (gcd_lt (by omega) (by omega)) (by decide)).mp h51
      have b0 : B = 0 := Nat.eq_zero_of_gcd_eq_zero_left g0
      refine V_iln (pc := 54) dX8_pound_54 rfl rfl ?_
      refine V_iret (pc := 55) dX8_pound_55 rfl rfl ?_
      subst b0
      have e : o_pound (A 288) n p = p := by unfold o_pound; rw [if_pos (by omega), eB, if_pos (show nI 0 = 0 from rfl)]
      rw [e] at h
      exact h S _ _ _ (NX.rf hI)
  · refine V_ne (pc := 6) (t := 12) dX8_pound_6 (by decide) (fun h => absurd h (by decide)) (fun _ => ?_)
    refine V_ldc (pc := 9) dX8_pound_9 (KC_X8_60 rfl) ?_
    refine V_iret (pc := 11) dX8_pound_11 rfl rfl ?_
    have e : o_pound (A 288) n p = -1000000001 := by unfold o_pound; rw [if_neg a0]
    rw [e] at h
    exact h S _ _ _ (NX.rf hI)
set_option maxRecDepth 100000 in
set_option maxHeartbeats 1000000 in
theorem C_falseOne_L {x : pX} {d : Nat} {S : pS} {b : Nat × Nat} {Q : Int32 → pS → Prop} {cc m : Nat} {lv im tr ct as : Nat → Nat} {A : Nat → Nat → Int32} {F : Nat → Int32} {n nt np : Nat} (hI : IV S cc m lv im tr ct as A F n nt np) (h : Q (orN (ffo (A 288) n np n).1) S) : ∀ (c k : Nat), k + c = n → V x (d + 5) M_X8_falseOne (qi Q) b 14 [(0, .ref cc), (1, .int (nI (((ffo (A 288) n np k).2)))), (2, .int (orN (ffo (A 288) n np k).1)), (3, .int (nI k))] [] S := by
  intro c
  induction c with
  | zero =>
    intro k hk 
    have hC := hI.1
    have hMF := hI.2.1
    have hS := hC.wl
    have hW := hI.2.2.1.1
    have hX := hI.2.2.1.2.1
    have hMI := hI.2.2.1.2.2.1
    have hV := hI.2.2.1.2.2.2
    have hn := hMI.1.1
    have hn10 := hMI.1.2
    have ht := hMI.2.1.1
    have ht14 := hMI.2.1.2
    have hp := hMI.2.2.1.1
    have hp20 := hMI.2.2.1.2
    refine V_iln (pc := 14) dX8_falseOne_14 rfl rfl ?_
    refine V_aln (pc := 15) dX8_falseOne_15 rfl rfl ?_
    refine V_gr (pc := 16) 8 0 256 dX8_falseOne_16 (FL_X8_10 rfl) rfl rfl hC.1 hC.rl ?_
    refine V_gie (pc := 19) 7 1 225 dX8_falseOne_19 (FL_X8_206 rfl) rfl rfl (hS.k 0 (by decide) rfl) (hW.1 225 0 0 (by decide)) ?_
    refine V_cge (pc := 22) (t := 54) dX8_falseOne_22 (by decide) (fun h22 => ?_) (fun h22 => ?_)
    · refine V_iln (pc := 54) dX8_falseOne_54 rfl rfl ?_
      refine V_iret (pc := 55) dX8_falseOne_55 rfl rfl ?_
      obtain rfl : k = n := by omega
      exact h
    · exact absurd (by rw [hn]; exact nI_le (by omega) (by omega)) h22
  | succ c ih =>
    intro k hk 
    have hC := hI.1
    have hMF := hI.2.1
    have hS := hC.wl
    have hW := hI.2.2.1.1
    have hX := hI.2.2.1.2.1
    have hMI := hI.2.2.1.2.2.1
    have hV := hI.2.2.1.2.2.2
    have hn := hMI.1.1
    have hn10 := hMI.1.2
    have ht := hMI.2.1.1
    have ht14 := hMI.2.1.2
    have hp := hMI.2.2.1.1
    have hp20 := hMI.2.2.1.2
    have l1 := ffo_le (A 288) n np k
    have l2 := ffn_le (A 288) n (butW (nI k)) np
    refine V_iln (pc := 14) dX8_falseOne_14 rfl rfl ?_
    refine V_aln (pc := 15) dX8_falseOne_15 rfl rfl ?_
    refine V_gr (pc := 16) 8 0 256 dX8_falseOne_16 (FL_X8_10 rfl) rfl rfl hC.1 hC.rl ?_
    refine V_gie (pc := 19) 7 1 225 dX8_falseOne_19 (FL_X8_206 rfl) rfl rfl (hS.k 0 (by decide) rfl) (hW.1 225 0 0 (by decide)) ?_
    refine V_cge (pc := 22) (t := 54) dX8_falseOne_22 (by decide) (fun h22 => ?_) (fun h22 => ?_)
    · exact absurd h22 (by rw [hn]; exact nI_ge (by omega) (by omega))
    · refine V_aln (pc := 25) dX8_falseOne_25 rfl rfl ?_
      refine V_gr (pc := 26) 8 0 256 dX8_falseOne_26 (FL_X8_10 rfl) rfl rfl hC.1 hC.rl ?_
      refine V_iconst (pc := 29) (v := 1) dX8_falseOne_29 (by decide) ?_
      refine V_iln (pc := 30) dX8_falseOne_30 rfl rfl ?_
      refine V_ishl (pc := 31) dX8_falseOne_31 ?_
      refine V_cVi0 (pc := 32) (jc_X8_203 dX8_falseOne_32 rfl) rfl rfl (Nat.le_of_ble_eq_true rfl) (hS.k 0 (by decide) rfl) ?_
      refine w_fitCount hS hW hn hn10 hp hp20 ?_
      rw [show ((1 : Int32) <<< (nI k &&& 31)) ^^^ (-1) = butW (nI k) by unfold butW; rw [if_neg (nI_pos (by omega))]]
      refine V_is (pc := 35) (fun y => [(0, .ref cc), (1, .int (nI (((ffo (A 288) n np k).2)))), (2, .int (orN (ffo (A 288) n np k).1)), (3, .int (nI k)), (4, .int y)]) dX8_falseOne_35 (by decide) (fun _ => rfl) (fun y35 ey35 => ?_)
      subst ey35
      refine V_il (pc := 37) dX8_falseOne_37 rfl ?_
      refine V_iln (pc := 39) dX8_falseOne_39 rfl rfl ?_
      refine V_cle (pc := 40) (t := 48) dX8_falseOne_40 (by decide) (fun h40 => ?_) (fun h40 => ?_)
      · have w : ¬ (ffo (A 288) n np k).2 < ffn (A 288) n (butW (nI k)) np := fun q => nI_ge q (by omega) h40
        have e : ffo (A 288) n np (k + 1) = (ffo (A 288) n np k) := by
          show (if _ then _ else _) = _
          rw [if_neg w]
        refine V_inc (pc := 48) (fun y => [(0, .ref cc), (1, .int (nI (((ffo (A 288) n np k).2)))), (2, .int (orN (ffo (A 288) n np k).1)), (3, .int y), (4, .int (nI (ffn (A 288) n (butW (nI k)) np)))]) (w := 1) dX8_falseOne_48 (by decide) (by decide) rfl (fun _ => rfl) (fun y48 ey48 => ?_)
        obtain rfl : y48 = nI (k + 1) := by rw [ey48]; exact nI_1 _
        refine V_goto (pc := 51) (t := 14) dX8_falseOne_51 (by decide) ?_
        refine V_lp [0, 1, 2, 3] (ls' := [(0, .ref cc), (1, .int (nI (((ffo (A 288) n np k).2)))), (2, .int (orN (ffo (A 288) n np k).1)), (3, .int (nI (k + 1)))]) rfl ?_
        have q := ih (k + 1) (by omega)
        rw [e] at q
        exact q
      · have w : (ffo (A 288) n np k).2 < ffn (A 288) n (butW (nI k)) np := Nat.lt_of_not_le (fun q => h40 (nI_le q (by omega)))
        have e : ffo (A 288) n np (k + 1) = (some k, ffn (A 288) n (butW (nI k)) np) := by
          show (if _ then _ else _) = _
          rw [if_pos w]
        refine V_il (pc := 43) dX8_falseOne_43 rfl ?_
        refine V_isn (pc := 45) (fun y => [(0, .ref cc), (1, .int y), (2, .int (orN (ffo (A 288) n np k).1)), (3, .int (nI k)), (4, .int (nI (ffn (A 288) n (butW (nI k)) np)))]) dX8_falseOne_45 rfl (by decide) (fun _ => rfl) (fun y45 ey45 => ?_)
        subst ey45
        refine V_iln (pc := 46) dX8_falseOne_46 rfl rfl ?_
        refine V_isn (pc := 47) (fun y => [(0, .ref cc), (1, .int (nI (ffn (A 288) n (butW (nI k)) np))), (2, .int y), (3, .int (nI k)), (4, .int (nI (ffn (A 288) n (butW (nI k)) np)))]) dX8_falseOne_47 rfl (by decide) (fun _ => rfl) (fun y47 ey47 => ?_)
        subst ey47
        refine V_inc (pc := 48) (fun y => [(0, .ref cc), (1, .int (nI (ffn (A 288) n (butW (nI k)) np))), (2, .int (nI k)), (3, .int y), (4, .int (nI (ffn (A 288) n (butW (nI k)) np)))]) (w := 1) dX8_falseOne_48 (by decide) (by decide) rfl (fun _ => rfl) (fun y48 ey48 => ?_)
        obtain rfl : y48 = nI (k + 1) := by rw [ey48]; exact nI_1 _
        refine V_goto (pc := 51) (t := 14) dX8_falseOne_51 (by decide) ?_
        refine V_lp [0, 1, 2, 3] (ls' := [(0, .ref cc), (1, .int (nI (ffn (A 288) n (butW (nI k)) np))), (2, .int (nI k)), (3, .int (nI (k + 1)))]) rfl ?_
        have q := ih (k + 1) (by omega)
        rw [e] at q
        exact q
set_option maxRecDepth 100000 in
set_option maxHeartbeats 1000000 in
theorem C_falseOne {x : pX} {d : Nat} {S : pS} {Q : Int32 → pS → Prop} {cc m : Nat} {lv im tr ct as : Nat → Nat} {A : Nat → Nat → Int32} {F : Nat → Int32} {n nt np : Nat} (hI : IV S cc m lv im tr ct as A F n nt np) (h : ∀ S2 n2 nt2 np2, NX S S2 cc m lv im tr ct as (A) (F) n2 nt2 np2 → Q (o_false (A 288) n np) S2) : PI x (d + 5) M_X8_falseOne [.ref cc] S Q := by
  have hC := hI.1
  have hMF := hI.2.1
  have hS := hC.wl
  have hW := hI.2.2.1.1
  have hX := hI.2.2.1.2.1
  have hMI := hI.2.2.1.2.2.1
  have hV := hI.2.2.1.2.2.2
  have hn := hMI.1.1
  have hn10 := hMI.1.2
  have ht := hMI.2.1.1
  have ht14 := hMI.2.1.2
  have hp := hMI.2.2.1.1
  have hp20 := hMI.2.2.1.2
  refine PM_of (by decide +kernel) (Nat.le_of_ble_eq_true rfl) ?_
  show V x (d + 5) M_X8_falseOne (qi Q) (0, 0) 0 [(0, .ref cc)] [] S
  refine V_aln (pc := 0) dX8_falseOne_0 rfl rfl ?_
  refine V_gr (pc := 1) 8 0 256 dX8_falseOne_1 (FL_X8_10 rfl) rfl rfl hC.1 hC.rl ?_
  refine V_iconst (pc := 4) (v := 0) dX8_falseOne_4 (by decide) ?_
  refine V_cVi0 (pc := 5) (jc_X8_203 dX8_falseOne_5 rfl) rfl rfl (Nat.le_of_ble_eq_true rfl) (hS.k 0 (by decide) rfl) ?_
  refine w_fitCount hS hW hn hn10 (w := 0) hp hp20 ?_
  refine V_isn (pc := 8) (fun y => [(0, .ref cc), (1, .int y)]) dX8_falseOne_8 rfl (by decide) (fun _ => rfl) (fun y8 ey8 => ?_)
  subst ey8
  refine V_ldc (pc := 9) dX8_falseOne_9 (KC_X8_154 rfl) ?_
  refine V_isn (pc := 11) (fun y => [(0, .ref cc), (1, .int (nI (ffn (A 288) n (butW (-1)) np))), (2, .int y)]) dX8_falseOne_11 rfl (by decide) (fun _ => rfl) (fun y11 ey11 => ?_)
  refine V_iconst (pc := 12) (v := 0) dX8_falseOne_12 (by decide) ?_
  refine V_isn (pc := 13) (fun y => [(0, .ref cc), (1, .int (nI (ffn (A 288) n (butW (-1)) np))), (2, .int y11), (3, .int y)]) dX8_falseOne_13 rfl (by decide) (fun _ => rfl) (fun y13 ey13 => ?_)
  obtain rfl : y13 = nI 0 := ey13
  subst ey11
  exact C_falseOne_L hI (h S _ _ _ (NX.rf hI)) n 0 (by omega)
