/-! ===== the class's reader: levels and pieces, one in another ===== -/
def RP (tp : Nat → Int32) (L : Nat) (key : Int32) (S0 : pS) (ct : Nat → Nat) (f md b n : Nat) (s : tk) (o : sps) (Q : pS → Prop) : Prop := (∀ S2, (rdP tp L key f md b n s o).1 = true → PRS S2 S0 ct tp key (rdP tp L key f md b n s o).2.1 (rdP tp L key f md b n s o).2.2 → Q S2) ∧ (∀ S2, (rdP tp L key f md b n s o).1 = false → PRF S2 S0 ct (rdP tp L key f md b n s o).2.1.1 → Q S2)
def KP5 (x : pX) (S0 : pS) (ct : Nat → Nat) (tp : Nat → Int32) (L : Nat) (key : Int32) (f : Nat) : Prop := ∀ (D bk nn : Nat) (s : tk) (o : sps) (S : pS) (Q : pS → Prop), tko L s → o.length ≤ s.1 → bk ≤ 8 → nn ≤ 8 → fuN 5 L s ≤ f → f + 20 + (8 - bk) ≤ D → PRS S S0 ct tp key s o → RP tp L key S0 ct f 5 bk nn s o Q → PV x D M_X1_readPiece [.ref (ct 0), .int (nI bk), .int (nI nn)] S Q
def KLv (x : pX) (S0 : pS) (ct : Nat → Nat) (tp : Nat → Int32) (L : Nat) (key : Int32) (md f : Nat) : Prop := ∀ (D bk nn : Nat) (s : tk) (o : sps) (S : pS) (Q : pS → Prop), tko L s → o.length ≤ s.1 → bk ≤ 8 → nn ≤ 8 → fuN md L s ≤ f → f + 21 + (8 - bk) ≤ D → PRS S S0 ct tp key s o → RP tp L key S0 ct f md bk nn s o Q → PV x D M_X1_readLevel [.ref (ct 0), .int (nI md), .int (nI bk), .int (nI nn)] S Q
def KLo (x : pX) (S0 : pS) (ct : Nat → Nat) (tp : Nat → Int32) (L : Nat) (key : Int32) (md f : Nat) : Prop := ∀ (D bk nn : Nat) (s : tk) (o : sps) (S : pS) (Q : pS → Prop) (i ms : Nat), tko L s → o.length ≤ s.1 → bk ≤ 8 → nn ≤ 8 → fuN (md + 6) L s ≤ f → f + 21 + (8 - bk) ≤ D → (i ≤ s.1 ∧ (md = 2 → i = 0)) → ((md = 2 → ms = 1) ∧ (¬ md = 2 → ms = 96)) → PRS S S0 ct tp key s o → RP tp L key S0 ct f (md + 6) bk nn s o Q → V x D M_X1_readLevel (qv Q) (0, 0) 37 [(0, .ref (ct 0)), (1, .int (nI md)), (2, .int (nI bk)), (3, .int (nI nn)), (4, .int (nI ms)), (5, .int (nI i))] [] S
theorem lvOf_le (c : Int32) : lvOf c ≤ 5 := by unfold lvOf; repeat (first | omega | split)
theorem tok_3 {ah en : Int32} {tp : Nat → Int32} {s : tk} (h : tokA ah en tp s) (h1 : s.2.2 = 3) : ah = tp s.1 := by
  rcases h with ⟨q, _⟩ | ⟨q, _⟩ | ⟨q, _⟩ | ⟨_, h2, _⟩ | ⟨q, _⟩
  · omega
  · omega
  · omega
  · exact h2
  · omega
theorem tok_lv {ah en : Int32} {tp : Nat → Int32} {s : tk} (h : tokA ah en tp s) (h1 : ¬ s.2.2 = 3) : lvOf ah = 5 := by
  rcases h with ⟨_, q⟩ | ⟨_, q, _⟩ | ⟨_, q, _⟩ | ⟨q, _⟩ | ⟨_, q | ⟨q, _⟩⟩
  · rw [q]; decide
  · rw [q]; decide
  · rw [q]; decide
  · exact absurd q h1
  · rw [q]; decide
  · rw [q]; decide
theorem enc_1 (key v : Int32) : ¬ enc key 1 v = -1 := by
  unfold enc
  rw [if_neg (by decide), if_pos rfl]
  repeat (first | decide | split)
theorem dgt_n {tp : Nat → Int32} {p : Nat} : ∀ k, k ≤ 4 → (∀ j, p ≤ j → j < p + k → inR tp 48 57 j) → ∃ v : Nat, v < 10 ^ k ∧ dgt tp p k = nI v
  | 0, _, _ => ⟨0, by decide, rfl⟩
  | k + 1, hk, h => by
    obtain ⟨v, hv, e⟩ := dgt_n k (by omega) (fun j h1 h2 => h j h1 (by omega))
    have q := h (p + k) (by omega) (by omega)
    obtain ⟨b, hb, eb⟩ := int_n (v := tp (p + k)) (N := 57) (by have := q.1; omega) q.2 (by decide)
    have q1 := q.1
    rw [eb, nI_toInt (by omega)] at q1
    have p4 : (10 : Nat) ^ k ≤ 10 ^ 4 := Nat.pow_le_pow_right (by decide) (by omega)
    refine ⟨10 * v + b - 48, ?_, ?_⟩
    · rw [Nat.pow_succ]; omega
    · show 10 * dgt tp p k + tp (p + k) - 48 = _
      rw [e, eb, show (10 : Int32) = nI 10 from rfl, pk_mul, nI_add, show (48 : Int32) = nI 48 from rfl, nI_sub (by omega)]
set_option maxRecDepth 100000 in
set_option maxHeartbeats 1000000 in
theorem r_lv_out {x : pX} {d : Nat} {S : pS} {b : Nat × Nat} {Q : pS → Prop} {ct : Nat → Nat} {md bk nn ms i : Nat} (hi : ms ≤ i) (hi2 : i < 1000) (h : Q S) : V x (d + 10) M_X1_readLevel (qv Q) b 37 [(0, .ref ((ct 0))), (1, .int (nI md)), (2, .int (nI bk)), (3, .int (nI nn)), (4, .int (nI ms)), (5, .int (nI i))] [] S := by
  refine V_il (pc := 37) dX1_readLevel_37 rfl ?_
  refine V_il (pc := 39) dX1_readLevel_39 rfl ?_
  refine V_cge (pc := 41) (t := 95) dX1_readLevel_41 (by decide) (fun h41 => ?_) (fun h41 => ?_)
  · refine V_ret (pc := 95) dX1_readLevel_95 rfl ?_
    exact h
  · exact absurd (nI_le hi (by omega)) h41
set_option maxRecDepth 100000 in
set_option maxHeartbeats 1000000 in
theorem r_lv_flt {x : pX} {d : Nat} {S : pS} {b : Nat × Nat} {Q : pS → Prop} {ct : Nat → Nat} {tp : Nat → Int32} {L : Nat} {S0 : pS} {md bk nn ms i : Nat} (hX : RX S ct tp L) {p : Nat} (hP : PRF S S0 ct p) (h : Q S) : V x (d + 10) M_X1_readLevel (qv Q) b 37 [(0, .ref ((ct 0))), (1, .int (nI md)), (2, .int (nI bk)), (3, .int (nI nn)), (4, .int (nI ms)), (5, .int (nI i))] [] S := by
  refine V_il (pc := 37) dX1_readLevel_37 rfl ?_
  refine V_il (pc := 39) dX1_readLevel_39 rfl ?_
  refine V_cge (pc := 41) (t := 95) dX1_readLevel_41 (by decide) (fun h41 => ?_) (fun h41 => ?_)
  · refine V_ret (pc := 95) dX1_readLevel_95 rfl ?_
    exact h
  · refine V_aln (pc := 44) dX1_readLevel_44 rfl rfl ?_
    refine V_gie (pc := 45) 1 4 36 dX1_readLevel_45 (FL_X1_32 rfl) rfl rfl hX.1.1 rfl ?_
    refine V_iconst (pc := 48) (v := (-1)) dX1_readLevel_48 (by decide) ?_
    refine V_cne (pc := 49) (t := 95) dX1_readLevel_49 (by decide) (fun h49 => ?_) (fun h49 => ?_)
    · refine V_ret (pc := 95) dX1_readLevel_95 rfl ?_
      exact h
    · exact absurd h49 hP.ne
set_option maxRecDepth 100000 in
set_option maxHeartbeats 1000000 in
theorem r_lv_ns {x : pX} {d : Nat} {S : pS} {b : Nat × Nat} {Q : pS → Prop} {ct : Nat → Nat} {tp : Nat → Int32} {L : Nat} {md bk nn ms i : Nat} (hX : RX S ct tp L) (h36 : gI S 36 (ct 0) = -1) (hmd : md < 5) (hn : ¬ lvOf (gI S 33 (ct 0)) = md) (h : Q S) : V x (d + 10) M_X1_readLevel (qv Q) b 37 [(0, .ref ((ct 0))), (1, .int (nI md)), (2, .int (nI bk)), (3, .int (nI nn)), (4, .int (nI ms)), (5, .int (nI i))] [] S := by
  refine V_il (pc := 37) dX1_readLevel_37 rfl ?_
  refine V_il (pc := 39) dX1_readLevel_39 rfl ?_
  refine V_cge (pc := 41) (t := 95) dX1_readLevel_41 (by decide) (fun h41 => ?_) (fun h41 => ?_)
  · refine V_ret (pc := 95) dX1_readLevel_95 rfl ?_
    exact h
  · refine V_aln (pc := 44) dX1_readLevel_44 rfl rfl ?_
    refine V_gie (pc := 45) 1 4 36 dX1_readLevel_45 (FL_X1_32 rfl) rfl rfl hX.1.1 rfl ?_
    refine V_iconst (pc := 48) (v := (-1)) dX1_readLevel_48 (by decide) ?_
    refine V_cne (pc := 49) (t := 95) dX1_readLevel_49 (by decide) (fun h49 => ?_) (fun h49 => ?_)
    · exact absurd h36 h49
    · refine V_aln (pc := 52) dX1_readLevel_52 rfl rfl ?_
      refine V_gie (pc := 53) 1 1 33 dX1_readLevel_53 (FL_X1_22 rfl) rfl rfl hX.1.1 rfl ?_
      refine V_cSi0 (pc := 56) (jc_X1_112 dX1_readLevel_56 rfl) rfl rfl (Nat.le_of_ble_eq_true rfl) ?_
      refine r_levelOf ?_
      refine V_iln (pc := 59) dX1_readLevel_59 rfl rfl ?_
      refine V_cne (pc := 60) (t := 95) dX1_readLevel_60 (by decide) (fun h60 => ?_) (fun h60 => ?_)
      · refine V_ret (pc := 95) dX1_readLevel_95 rfl ?_
        exact h
      · exact absurd ((nI_eq (by have := lvOf_le (gI S 33 (ct 0)); omega) (by omega)).mp h60) hn
set_option maxRecDepth 100000 in
set_option maxHeartbeats 1000000 in
theorem k_lo {x : pX} {S0 : pS} {ct : Nat → Nat} {tp : Nat → Int32} {L : Nat} {key : Int32} {f md : Nat} (hX0 : RX S0 ct tp L) (hmd : md < 5) (ih : KLv x S0 ct tp L key (md + 1) f) (il : KLo x S0 ct tp L key md f) : KLo x S0 ct tp L key md (f + 1) := by
  intro D bk nn s o S Q i ms ht ho hb hn hf hD hi hm hP hR
  have hX := hX0.f hP.1
  have h96 := hX.2.2.2.1.2
  have g1 := ht.1
  have g2 := ht.2.1
  have g3 := ht.2.2.1
  have nk := nxs_ok tp ht
  obtain ⟨d, rfl⟩ : ∃ d, D = d + 20 := ⟨D - 20, by omega⟩
  unfold fuN at hf
  rw [if_neg (by omega)] at hf
  by_cases sg : s.2.2 = 3 ∧ lvOf (tp s.1) = md
  · have s3 := sg.1
    have ah := tok_3 hP.2.1.2 s3
    have er : rdP tp L key (f + 1) (md + 6) bk nn s o = _ := rdP_sg (by omega) sg.1 (by omega)
    rw [show md + 6 - 5 = md + 1 by omega] at er
    have rk := rdP_ok tp L key f (md + 1) bk nn (nxs tp L s) o nk.1
    have rk1 := rk.1.1
    have rk2 := rk.1.2.1
    refine V_il (pc := 37) dX1_readLevel_37 rfl ?_
    refine V_il (pc := 39) dX1_readLevel_39 rfl ?_
    refine V_cge (pc := 41) (t := 95) dX1_readLevel_41 (by decide) (fun h41 => ?_) (fun h41 => ?_)
    · exact absurd h41 (nI_ge (by omega) (by omega))
    · refine V_aln (pc := 44) dX1_readLevel_44 rfl rfl ?_
      refine V_gie (pc := 45) 1 4 36 dX1_readLevel_45 (FL_X1_32 rfl) rfl rfl hX.1.1 rfl ?_
      refine V_iconst (pc := 48) (v := (-1)) dX1_readLevel_48 (by decide) ?_
      refine V_cne (pc := 49) (t := 95) dX1_readLevel_49 (by decide) (fun h49 => ?_) (fun h49 => ?_)
      · exact absurd hP.2.2.2.1 h49
      · refine V_aln (pc := 52) dX1_readLevel_52 rfl rfl ?_
        refine V_gie (pc := 53) 1 1 33 dX1_readLevel_53 (FL_X1_22 rfl) rfl rfl hX.1.1 rfl ?_
        refine V_cSi0 (pc := 56) (jc_X1_112 dX1_readLevel_56 rfl) rfl rfl (Nat.le_of_ble_eq_true rfl) ?_
        refine r_levelOf ?_
        refine V_iln (pc := 59) dX1_readLevel_59 rfl rfl ?_
        refine V_cne (pc := 60) (t := 95) dX1_readLevel_60 (by decide) (fun h60 => ?_) (fun h60 => ?_)
        · exact absurd (by rw [ah, sg.2]) h60
        · refine V_aln (pc := 63) dX1_readLevel_63 rfl rfl ?_
          refine V_gie (pc := 64) 1 1 33 dX1_readLevel_64 (FL_X1_22 rfl) rfl rfl hX.1.1 rfl ?_
          refine V_is (pc := 67) (fun y => [(0, .ref ((ct 0))), (1, .int (nI md)), (2, .int (nI bk)), (3, .int (nI nn)), (4, .int (nI ms)), (5, .int (nI i)), (6, .int y)]) dX1_readLevel_67 (by decide) (fun _ => rfl) (fun y67 ey67 => ?_)
          refine V_aln (pc := 69) dX1_readLevel_69 rfl rfl ?_
          refine V_cVv0 (pc := 70) (jc_X1_41 dX1_readLevel_70 rfl) rfl rfl (Nat.le_of_ble_eq_true rfl) hX.1.1 ?_
          refine r_goS hX ht hP.2.1 (Or.inr (Or.inr s3)) (fun S2 f2 T2 => ?_)
          have P2 := hP.go hX f2 T2
          have hX2 := hX.f f2.r
          · refine V_aln (pc := 73) dX1_readLevel_73 rfl rfl ?_
            refine V_iln (pc := 74) dX1_readLevel_74 rfl rfl ?_
            refine V_iconst (pc := 75) (v := 1) dX1_readLevel_75 (by decide) ?_
            refine V_iadd (pc := 76) dX1_readLevel_76 ?_
            refine V_iln (pc := 77) dX1_readLevel_77 rfl rfl ?_
            refine V_iln (pc := 78) dX1_readLevel_78 rfl rfl ?_
            refine V_cVv0 (pc := 79) (jc_X1_47 dX1_readLevel_79 rfl) rfl rfl (Nat.le_of_ble_eq_true rfl) hX2.1.1 ?_
            rw [nI_1]
            refine ih (d + 19) bk nn (nxs tp L s) o S2 _ nk.1 (by omega) hb hn (by unfold fuN; rw [if_pos (by omega)]; omega) (by omega) P2 ⟨fun S3 r1 P3 => ?_, fun S3 r0 P3 => ?_⟩
            · have hX3 := hX0.f P3.1
              rw [if_pos r1] at er
              refine V_aln (pc := 82) dX1_readLevel_82 rfl rfl ?_
              refine V_il (pc := 83) dX1_readLevel_83 rfl ?_
              refine V_ineg (pc := 85) dX1_readLevel_85 ?_
              refine V_cVv0 (pc := 86) (jc_X1_115 dX1_readLevel_86 rfl) rfl rfl (Nat.le_of_ble_eq_true rfl) hX3.1.1 ?_
              refine r_sign hX3 P3 (by omega) (v := tp s.1) (by rw [ey67, ah]) (fun S4 P4 => ?_)
              refine V_inc (pc := 89) (fun y => [(0, .ref ((ct 0))), (1, .int (nI md)), (2, .int (nI bk)), (3, .int (nI nn)), (4, .int (nI ms)), (5, .int y), (6, .int y67)]) (w := 1) dX1_readLevel_89 (by decide) (by decide) rfl (fun _ => rfl) (fun y89 ey89 => ?_)
              obtain rfl : y89 = nI (i + 1) := by rw [ey89]; exact nI_1 _
              refine V_goto (pc := 92) (t := 37) dX1_readLevel_92 (by decide) ?_
              refine V_lp [0, 1, 2, 3, 4, 5] (ls' := [(0, .ref ((ct 0))), (1, .int (nI md)), (2, .int (nI bk)), (3, .int (nI nn)), (4, .int (nI ms)), (5, .int (nI (i + 1)))]) rfl ?_
              by_cases m2 : md = 2
              · rw [if_pos (by omega)] at er
                exact r_lv_out (by omega) (by omega) (hR.1 S4 (by rw [er]) (by rw [er]; exact P4))
              · rw [if_neg (by omega)] at er
                exact il (d + 20) bk nn _ _ S4 Q (i + 1) ms rk.1 (by rw [List.length_append]; simp only [List.length_cons, List.length_nil]; omega) hb hn (by unfold fuN; rw [if_neg (by omega)]; omega) (by omega) ⟨by omega, fun q => absurd q m2⟩ hm P4 ⟨fun S5 a b => hR.1 S5 (by rw [er]; exact a) (by rw [er]; exact b), fun S5 a b => hR.2 S5 (by rw [er]; exact a) (by rw [er]; exact b)⟩
            · have hX3 := hX0.f P3.1
              rw [if_neg (by rw [r0]; decide)] at er
              refine V_aln (pc := 82) dX1_readLevel_82 rfl rfl ?_
              refine V_il (pc := 83) dX1_readLevel_83 rfl ?_
              refine V_ineg (pc := 85) dX1_readLevel_85 ?_
              refine V_cVv0 (pc := 86) (jc_X1_115 dX1_readLevel_86 rfl) rfl rfl (Nat.le_of_ble_eq_true rfl) hX3.1.1 ?_
              refine r_signF hX3 P3 (fun S4 P4 => ?_)
              refine V_inc (pc := 89) (fun y => [(0, .ref ((ct 0))), (1, .int (nI md)), (2, .int (nI bk)), (3, .int (nI nn)), (4, .int (nI ms)), (5, .int y), (6, .int y67)]) (w := 1) dX1_readLevel_89 (by decide) (by decide) rfl (fun _ => rfl) (fun y89 ey89 => ?_)
              obtain rfl : y89 = nI (i + 1) := by rw [ey89]; exact nI_1 _
              refine V_goto (pc := 92) (t := 37) dX1_readLevel_92 (by decide) ?_
              refine V_lp [0, 1, 2, 3, 4, 5] (ls' := [(0, .ref ((ct 0))), (1, .int (nI md)), (2, .int (nI bk)), (3, .int (nI nn)), (4, .int (nI ms)), (5, .int (nI (i + 1)))]) rfl ?_
              have hX4 := hX0.f P4.1
              exact r_lv_flt hX4 P4 (hR.2 S4 (by rw [er]; exact r0) (by rw [er]; exact P4))
  · have er : rdP tp L key (f + 1) (md + 6) bk nn s o = _ := rdP_ns (by omega) (fun q => sg ⟨q.1, by omega⟩)
    refine r_lv_ns hX hP.2.2.2.1 hmd ?_ (hR.1 S (by rw [er]) (by rw [er]; exact hP))
    by_cases q3 : s.2.2 = 3
    · rw [tok_3 hP.2.1.2 q3]; exact fun q => sg ⟨q3, q⟩
    · rw [tok_lv hP.2.1.2 q3]; omega
set_option maxRecDepth 100000 in
set_option maxHeartbeats 1000000 in
theorem k_lv {x : pX} {S0 : pS} {ct : Nat → Nat} {tp : Nat → Int32} {L : Nat} {key : Int32} {f md : Nat} (hX0 : RX S0 ct tp L) (hmd : md < 5) (ih : KLv x S0 ct tp L key (md + 1) f) (il : KLo x S0 ct tp L key md f) : KLv x S0 ct tp L key md (f + 1) := by
  intro D bk nn s o S Q ht ho hb hn hf hD hP hR
  have hX := hX0.f hP.1
  have h96 := hX.2.2.2.1.2
  have g1 := ht.1
  have g2 := ht.2.1
  have g3 := ht.2.2.1
  have nk := nxs_ok tp ht
  obtain ⟨d, rfl⟩ : ∃ d, D = d + 20 := ⟨D - 20, by omega⟩
  unfold fuN at hf
  rw [if_pos (by omega)] at hf
  have er : rdP tp L key (f + 1) md bk nn s o = _ := rdP_lv hmd
  have rk := rdP_ok tp L key f (md + 1) bk nn s o ht
  have rk1 := rk.1.1
  have rk2 := rk.1.2.1
  refine PM_of (by decide +kernel) (Nat.le_of_ble_eq_true rfl) ?_
  show V x (d + 20) M_X1_readLevel (qv Q) (0, 0) 0 [(0, .ref ((ct 0))), (1, .int (nI md)), (2, .int (nI bk)), (3, .int (nI nn))] [] S
  refine V_iln (pc := 0) dX1_readLevel_0 rfl rfl ?_
  refine V_iconst (pc := 1) (v := 5) dX1_readLevel_1 (by decide) ?_
  refine V_clt (pc := 2) (t := 12) dX1_readLevel_2 (by decide) (fun h2 => ?_) (fun h2 => ?_)
  · refine V_aln (pc := 12) dX1_readLevel_12 rfl rfl ?_
    refine V_iln (pc := 13) dX1_readLevel_13 rfl rfl ?_
    refine V_iconst (pc := 14) (v := 1) dX1_readLevel_14 (by decide) ?_
    refine V_iadd (pc := 15) dX1_readLevel_15 ?_
    refine V_iln (pc := 16) dX1_readLevel_16 rfl rfl ?_
    refine V_iln (pc := 17) dX1_readLevel_17 rfl rfl ?_
    refine V_cVv0 (pc := 18) (jc_X1_47 dX1_readLevel_18 rfl) rfl rfl (Nat.le_of_ble_eq_true rfl) hX.1.1 ?_
    rw [nI_1]
    refine ih (d + 19) bk nn s o S _ ht ho hb hn (by unfold fuN; rw [if_pos (by omega)]; omega) (by omega) hP ⟨fun S3 r1 P3 => ?_, fun S3 r0 P3 => ?_⟩
    · have hX3 := hX0.f P3.1
      rw [if_pos r1] at er
      refine V_iln (pc := 21) dX1_readLevel_21 rfl rfl ?_
      refine V_iconst (pc := 22) (v := 2) dX1_readLevel_22 (by decide) ?_
      refine V_cne (pc := 23) (t := 30) dX1_readLevel_23 (by decide) (fun h23 => ?_) (fun h23 => ?_)
      · have m2 : ¬ md = 2 := fun q => h23 (by rw [q]; rfl)
        refine V_bipush (pc := 30) (v := 96) dX1_readLevel_30 (by decide) ?_
        refine V_is (pc := 32) (fun y => [(0, .ref ((ct 0))), (1, .int (nI md)), (2, .int (nI bk)), (3, .int (nI nn)), (4, .int y)]) dX1_readLevel_32 (by decide) (fun _ => rfl) (fun y32 ey32 => ?_)
        obtain rfl : y32 = nI 96 := ey32
        refine V_iconst (pc := 34) (v := 0) dX1_readLevel_34 (by decide) ?_
        refine V_is (pc := 35) (fun y => [(0, .ref ((ct 0))), (1, .int (nI md)), (2, .int (nI bk)), (3, .int (nI nn)), (4, .int (nI 96)), (5, .int y)]) dX1_readLevel_35 (by decide) (fun _ => rfl) (fun y35 ey35 => ?_)
        obtain rfl : y35 = nI 0 := ey35
        exact il (d + 20) bk nn _ _ S3 Q 0 96 rk.1 (by omega) hb hn (by unfold fuN; rw [if_neg (by omega)]; omega) (by omega) ⟨by omega, fun _ => rfl⟩ ⟨fun q => by omega, fun q => by omega⟩ P3 ⟨fun S5 a b => hR.1 S5 (by rw [er]; exact a) (by rw [er]; exact b), fun S5 a b => hR.2 S5 (by rw [er]; exact a) (by rw [er]; exact b)⟩
      · have m2 : md = 2 := (nI_eq (b := 2) (by omega) (by decide)).mp h23
        refine V_iconst (pc := 26) (v := 1) dX1_readLevel_26 (by decide) ?_
        refine V_goto (pc := 27) (t := 32) dX1_readLevel_27 (by decide) ?_
        refine V_is (pc := 32) (fun y => [(0, .ref ((ct 0))), (1, .int (nI md)), (2, .int (nI bk)), (3, .int (nI nn)), (4, .int y)]) dX1_readLevel_32 (by decide) (fun _ => rfl) (fun y32 ey32 => ?_)
        obtain rfl : y32 = nI 1 := ey32
        refine V_iconst (pc := 34) (v := 0) dX1_readLevel_34 (by decide) ?_
        refine V_is (pc := 35) (fun y => [(0, .ref ((ct 0))), (1, .int (nI md)), (2, .int (nI bk)), (3, .int (nI nn)), (4, .int (nI 1)), (5, .int y)]) dX1_readLevel_35 (by decide) (fun _ => rfl) (fun y35 ey35 => ?_)
        obtain rfl : y35 = nI 0 := ey35
        exact il (d + 20) bk nn _ _ S3 Q 0 1 rk.1 (by omega) hb hn (by unfold fuN; rw [if_neg (by omega)]; omega) (by omega) ⟨by omega, fun _ => rfl⟩ ⟨fun q => by omega, fun q => by omega⟩ P3 ⟨fun S5 a b => hR.1 S5 (by rw [er]; exact a) (by rw [er]; exact b), fun S5 a b => hR.2 S5 (by rw [er]; exact a) (by rw [er]; exact b)⟩
    · have hX3 := hX0.f P3.1
      rw [if_neg (by rw [r0]; decide)] at er
      refine V_iln (pc := 21) dX1_readLevel_21 rfl rfl ?_
      refine V_iconst (pc := 22) (v := 2) dX1_readLevel_22 (by decide) ?_
      refine V_cne (pc := 23) (t := 30) dX1_readLevel_23 (by decide) (fun h23 => ?_) (fun h23 => ?_)
      · have m2 : ¬ md = 2 := fun q => h23 (by rw [q]; rfl)
        refine V_bipush (pc := 30) (v := 96) dX1_readLevel_30 (by decide) ?_
        refine V_is (pc := 32) (fun y => [(0, .ref ((ct 0))), (1, .int (nI md)), (2, .int (nI bk)), (3, .int (nI nn)), (4, .int y)]) dX1_readLevel_32 (by decide) (fun _ => rfl) (fun y32 ey32 => ?_)
        obtain rfl : y32 = nI 96 := ey32
        refine V_iconst (pc := 34) (v := 0) dX1_readLevel_34 (by decide) ?_
        refine V_is (pc := 35) (fun y => [(0, .ref ((ct 0))), (1, .int (nI md)), (2, .int (nI bk)), (3, .int (nI nn)), (4, .int (nI 96)), (5, .int y)]) dX1_readLevel_35 (by decide) (fun _ => rfl) (fun y35 ey35 => ?_)
        obtain rfl : y35 = nI 0 := ey35
        exact r_lv_flt hX3 P3 (hR.2 S3 (by rw [er]; exact r0) (by rw [er]; exact P3))
      · have m2 : md = 2 := (nI_eq (b := 2) (by omega) (by decide)).mp h23
        refine V_iconst (pc := 26) (v := 1) dX1_readLevel_26 (by decide) ?_
        refine V_goto (pc := 27) (t := 32) dX1_readLevel_27 (by decide) ?_
        refine V_is (pc := 32) (fun y => [(0, .ref ((ct 0))), (1, .int (nI md)), (2, .int (nI bk)), (3, .int (nI nn)), (4, .int y)]) dX1_readLevel_32 (by decide) (fun _ => rfl) (fun y32 ey32 => ?_)
        obtain rfl : y32 = nI 1 := ey32
        refine V_iconst (pc := 34) (v := 0) dX1_readLevel_34 (by decide) ?_
        refine V_is (pc := 35) (fun y => [(0, .ref ((ct 0))), (1, .int (nI md)), (2, .int (nI bk)), (3, .int (nI nn)), (4, .int (nI 1)), (5, .int y)]) dX1_readLevel_35 (by decide) (fun _ => rfl) (fun y35 ey35 => ?_)
        obtain rfl : y35 = nI 0 := ey35
        exact r_lv_flt hX3 P3 (hR.2 S3 (by rw [er]; exact r0) (by rw [er]; exact P3))
  · exact absurd (Int32.not_le.mp (nI_ge (b := 5) hmd (by decide))) h2
set_option maxRecDepth 100000 in
set_option maxHeartbeats 1000000 in
theorem k_l5 {x : pX} {S0 : pS} {ct : Nat → Nat} {tp : Nat → Int32} {L : Nat} {key : Int32} {f : Nat} (hX0 : RX S0 ct tp L) (ih : KP5 x S0 ct tp L key f) : KLv x S0 ct tp L key 5 f := by
  intro D bk nn s o S Q ht ho hb hn hf hD hP hR
  have hX := hX0.f hP.1
  have h96 := hX.2.2.2.1.2
  have g1 := ht.1
  have g2 := ht.2.1
  have g3 := ht.2.2.1
  have nk := nxs_ok tp ht
  obtain ⟨d, rfl⟩ : ∃ d, D = d + 20 := ⟨D - 20, by omega⟩
  refine PM_of (by decide +kernel) (Nat.le_of_ble_eq_true rfl) ?_
  show V x (d + 20) M_X1_readLevel (qv Q) (0, 0) 0 [(0, .ref ((ct 0))), (1, .int (nI 5)), (2, .int (nI bk)), (3, .int (nI nn))] [] S
  refine V_iln (pc := 0) dX1_readLevel_0 rfl rfl ?_
  refine V_iconst (pc := 1) (v := 5) dX1_readLevel_1 (by decide) ?_
  refine V_clt (pc := 2) (t := 12) dX1_readLevel_2 (by decide) (fun h => absurd h (by decide)) (fun _ => ?_)
  refine V_aln (pc := 5) dX1_readLevel_5 rfl rfl ?_
  refine V_iln (pc := 6) dX1_readLevel_6 rfl rfl ?_
  refine V_iln (pc := 7) dX1_readLevel_7 rfl rfl ?_
  refine V_cVv0 (pc := 8) (jc_X1_108 dX1_readLevel_8 rfl) rfl rfl (Nat.le_of_ble_eq_true rfl) hX.1.1 ?_
  exact ih (d + 19) bk nn s o S _ ht ho hb hn hf (by omega) hP ⟨fun S3 r1 P3 => V_ret (pc := 11) dX1_readLevel_11 rfl (hR.1 S3 r1 P3), fun S3 r0 P3 => V_ret (pc := 11) dX1_readLevel_11 rfl (hR.2 S3 r0 P3)⟩
theorem nI_nm {v : Nat} (h : v < 2 ^ 30) : ¬ nI v = -1 := fun q => by
  have e := congrArg Int32.toInt q
  rw [nI_toInt (by omega), show (-1 : Int32).toInt = -1 from by decide] at e
  omega
set_option maxRecDepth 100000 in
set_option maxHeartbeats 1000000 in
theorem k_p5 {x : pX} {S0 : pS} {ct : Nat → Nat} {tp : Nat → Int32} {L : Nat} {key : Int32} {f : Nat} (hX0 : RX S0 ct tp L) (hx : XS x) (hkey : key = 0 ∨ key = 1 ∨ key = 2) (ip : KP5 x S0 ct tp L key f) (il : KLv x S0 ct tp L key 0 f) : KP5 x S0 ct tp L key (f + 1) := by
  intro D bk nn s o S Q ht ho hb hn hf hD hP hR
  have hX := hX0.f hP.1
  have h96 := hX.2.2.2.1.2
  have g1 := ht.1
  have g2 := ht.2.1
  have g3 := ht.2.2.1
  have nk := nxs_ok tp ht
  obtain ⟨d, rfl⟩ : ∃ d, D = d + 20 := ⟨D - 20, by omega⟩
  unfold fuN at hf
  rw [if_pos (by omega)] at hf
  refine PM_of (by decide +kernel) (Nat.le_of_ble_eq_true rfl) ?_
  show V x (d + 20) M_X1_readPiece (qv Q) (0, 0) 0 [(0, .ref ((ct 0))), (1, .int (nI bk)), (2, .int (nI nn))] [] S
  refine V_aln (pc := 0) dX1_readPiece_0 rfl rfl ?_
  refine V_gie (pc := 1) 1 1 33 dX1_readPiece_1 (FL_X1_22 rfl) rfl rfl hX.1.1 rfl ?_
  refine V_bipush (pc := 4) (v := (-3)) dX1_readPiece_4 (by decide) ?_
  refine V_cne (pc := 6) (t := 20) dX1_readPiece_6 (by decide) (fun h6 => ?_) (fun h6 => ?_)
  · have c1 : ¬ s.2.2 = 2 := fun q => h6 ((tok_n hX ht hP.2.1.2).mpr (Or.inl q))
    refine V_aln (pc := 20) dX1_readPiece_20 rfl rfl ?_
    refine V_gie (pc := 21) 1 1 33 dX1_readPiece_21 (FL_X1_22 rfl) rfl rfl hX.1.1 rfl ?_
    refine V_bipush (pc := 24) (v := (-2)) dX1_readPiece_24 (by decide) ?_
    refine V_cne (pc := 26) (t := 40) dX1_readPiece_26 (by decide) (fun h26 => ?_) (fun h26 => ?_)
    · have c1w : ¬ s.2.2 = 1 := fun q => h26 ((tok_w hX ht hP.2.1.2).mpr q)
      refine V_aln (pc := 40) dX1_readPiece_40 rfl rfl ?_
      refine V_gie (pc := 41) 1 1 33 dX1_readPiece_41 (FL_X1_22 rfl) rfl rfl hX.1.1 rfl ?_
      refine V_bipush (pc := 44) (v := 33) dX1_readPiece_44 (by decide) ?_
      refine V_cne (pc := 46) (t := 76) dX1_readPiece_46 (by decide) (fun h46 => ?_) (fun h46 => ?_)
      · have n33 : ¬ (s.2.2 = 3 ∧ tp s.1 = 33) := fun q => h46 ((tok_s hX ht hP.2.1.2 (c := 33) (by decide)).mpr q)
        refine V_aln (pc := 76) dX1_readPiece_76 rfl rfl ?_
        refine V_gie (pc := 77) 1 1 33 dX1_readPiece_77 (FL_X1_22 rfl) rfl rfl hX.1.1 rfl ?_
        refine V_bipush (pc := 80) (v := 40) dX1_readPiece_80 (by decide) ?_
        refine V_cne (pc := 82) (t := 111) dX1_readPiece_82 (by decide) (fun h82 => ?_) (fun h82 => ?_)
        · have n40 : ¬ (s.2.2 = 3 ∧ tp s.1 = 40) := fun q => h82 ((tok_s hX ht hP.2.1.2 (c := 40) (by decide)).mpr q)
          refine V_aln (pc := 111) dX1_readPiece_111 rfl rfl ?_
          refine V_cVv0 (pc := 112) (jc_X1_51 dX1_readPiece_112 rfl) rfl rfl (Nat.le_of_ble_eq_true rfl) hX.1.1 ?_
          refine r_stopF hX ht hP ho (fun S2 P2 => ?_)
          have er : rdP tp L key (f + 1) 5 bk nn s o = (false, s, o) := rdP_f c1 (fun q => c1w q.1) (fun q => n33 ⟨q.1, q.2.1⟩) (fun q => n40 ⟨q.1, q.2.1⟩)
          refine V_ret (pc := 115) dX1_readPiece_115 rfl ?_
          exact hR.2 S2 (by rw [er]) (by rw [er]; exact P2)
        · have y := (tok_s hX ht hP.2.1.2 (c := 40) (by decide)).mp h82
          have s3 := y.1
          refine V_iln (pc := 85) dX1_readPiece_85 rfl rfl ?_
          refine V_bipush (pc := 86) (v := 8) dX1_readPiece_86 (by decide) ?_
          refine V_cge (pc := 88) (t := 111) dX1_readPiece_88 (by decide) (fun h88 => ?_) (fun h88 => ?_)
          · have b8 : ¬ bk < 8 := fun q => nI_ge (b := 8) q (by decide) h88
            refine V_aln (pc := 111) dX1_readPiece_111 rfl rfl ?_
            refine V_cVv0 (pc := 112) (jc_X1_51 dX1_readPiece_112 rfl) rfl rfl (Nat.le_of_ble_eq_true rfl) hX.1.1 ?_
            refine r_stopF hX ht hP ho (fun S2 P2 => ?_)
            have er : rdP tp L key (f + 1) 5 bk nn s o = (false, s, o) := rdP_f c1 (fun q => c1w q.1) (fun q => n33 ⟨q.1, q.2.1⟩) (fun q => b8 q.2.2)
            refine V_ret (pc := 115) dX1_readPiece_115 rfl ?_
            exact hR.2 S2 (by rw [er]) (by rw [er]; exact P2)
          · have b8 : bk < 8 := Nat.lt_of_not_le (fun q => h88 (nI_le (a := 8) q (by omega)))
            refine V_aln (pc := 91) dX1_readPiece_91 rfl rfl ?_
            refine V_cVv0 (pc := 92) (jc_X1_41 dX1_readPiece_92 rfl) rfl rfl (Nat.le_of_ble_eq_true rfl) hX.1.1 ?_
            refine r_goS hX ht hP.2.1 (Or.inr (Or.inr s3)) (fun S2 f2 T2 => ?_)
            have P2 := hP.go hX f2 T2
            have hX2 := hX.f f2.r
            · refine V_aln (pc := 95) dX1_readPiece_95 rfl rfl ?_
              refine V_iconst (pc := 96) (v := 0) dX1_readPiece_96 (by decide) ?_
              refine V_iln (pc := 97) dX1_readPiece_97 rfl rfl ?_
              refine V_iconst (pc := 98) (v := 1) dX1_readPiece_98 (by decide) ?_
              refine V_iadd (pc := 99) dX1_readPiece_99 ?_
              refine V_iln (pc := 100) dX1_readPiece_100 rfl rfl ?_
              refine V_cVv0 (pc := 101) (jc_X1_47 dX1_readPiece_101 rfl) rfl rfl (Nat.le_of_ble_eq_true rfl) hX2.1.1 ?_
              rw [nI_1]
              have er : rdP tp L key (f + 1) 5 bk nn s o = _ := rdP_b y.1 y.2 b8
              have rk := rdP_ok tp L key f 0 (bk + 1) nn (nxs tp L s) o nk.1
              have rk1 := rk.1.1
              have rk2 := rk.1.2.1
              refine il (d + 19) (bk + 1) nn (nxs tp L s) o S2 _ nk.1 (by omega) (by omega) hn (by unfold fuN; rw [if_pos (by omega)]; omega) (by omega) P2 ⟨fun S3 r1 P3 => ?_, fun S3 r0 P3 => ?_⟩
              · have hX3 := hX0.f P3.1
                rw [if_pos r1] at er
                refine V_aln (pc := 104) dX1_readPiece_104 rfl rfl ?_
                refine V_cVv0 (pc := 105) (jc_X1_128 dX1_readPiece_105 rfl) rfl rfl (Nat.le_of_ble_eq_true rfl) hX3.1.1 ?_
                refine r_close hX3 rk.1 P3 (by omega) (fun c1 c2 S4 P4 => ?_) (fun c0 S4 P4 => ?_)
                · rw [if_pos ⟨c1, c2⟩] at er
                  refine V_goto (pc := 108) (t := 115) dX1_readPiece_108 (by decide) ?_
                  refine V_ret (pc := 115) dX1_readPiece_115 rfl ?_
                  exact hR.1 S4 (by rw [er]) (by rw [er]; exact P4)
                · rw [if_neg c0] at er
                  refine V_goto (pc := 108) (t := 115) dX1_readPiece_108 (by decide) ?_
                  refine V_ret (pc := 115) dX1_readPiece_115 rfl ?_
                  exact hR.2 S4 (by rw [er]) (by rw [er]; exact P4)
              · have hX3 := hX0.f P3.1
                rw [if_neg (by rw [r0]; decide)] at er
                refine V_aln (pc := 104) dX1_readPiece_104 rfl rfl ?_
                refine V_cVv0 (pc := 105) (jc_X1_128 dX1_readPiece_105 rfl) rfl rfl (Nat.le_of_ble_eq_true rfl) hX3.1.1 ?_
                refine r_closeF hX3 P3 ?_
                refine V_goto (pc := 108) (t := 115) dX1_readPiece_108 (by decide) ?_
                refine V_ret (pc := 115) dX1_readPiece_115 rfl ?_
                exact hR.2 S3 (by rw [er]; exact r0) (by rw [er]; exact P3)
      · have y := (tok_s hX ht hP.2.1.2 (c := 33) (by decide)).mp h46
        have s3 := y.1
        refine V_iln (pc := 49) dX1_readPiece_49 rfl rfl ?_
        refine V_bipush (pc := 50) (v := 8) dX1_readPiece_50 (by decide) ?_
        refine V_cge (pc := 52) (t := 76) dX1_readPiece_52 (by decide) (fun h52 => ?_) (fun h52 => ?_)
        · have l8 : ¬ nn < 8 := fun q => nI_ge (b := 8) q (by decide) h52
          refine V_aln (pc := 76) dX1_readPiece_76 rfl rfl ?_
          refine V_gie (pc := 77) 1 1 33 dX1_readPiece_77 (FL_X1_22 rfl) rfl rfl hX.1.1 rfl ?_
          refine V_bipush (pc := 80) (v := 40) dX1_readPiece_80 (by decide) ?_
          refine V_cne (pc := 82) (t := 111) dX1_readPiece_82 (by decide) (fun h82 => ?_) (fun h82 => ?_)
          · have n40 : ¬ (s.2.2 = 3 ∧ tp s.1 = 40) := fun q => h82 ((tok_s hX ht hP.2.1.2 (c := 40) (by decide)).mpr q)
            refine V_aln (pc := 111) dX1_readPiece_111 rfl rfl ?_
            refine V_cVv0 (pc := 112) (jc_X1_51 dX1_readPiece_112 rfl) rfl rfl (Nat.le_of_ble_eq_true rfl) hX.1.1 ?_
            refine r_stopF hX ht hP ho (fun S2 P2 => ?_)
            have er : rdP tp L key (f + 1) 5 bk nn s o = (false, s, o) := rdP_f c1 (fun q => c1w q.1) (fun q => l8 q.2.2) (fun q => n40 ⟨q.1, q.2.1⟩)
            refine V_ret (pc := 115) dX1_readPiece_115 rfl ?_
            exact hR.2 S2 (by rw [er]) (by rw [er]; exact P2)
          · exact absurd (h46.symm.trans h82) (by decide)
        · have l8 : nn < 8 := Nat.lt_of_not_le (fun q => h52 (nI_le (a := 8) q (by omega)))
          refine V_aln (pc := 55) dX1_readPiece_55 rfl rfl ?_
          refine V_cVv0 (pc := 56) (jc_X1_41 dX1_readPiece_56 rfl) rfl rfl (Nat.le_of_ble_eq_true rfl) hX.1.1 ?_
          refine r_goS hX ht hP.2.1 (Or.inr (Or.inr s3)) (fun S2 f2 T2 => ?_)
          have P2 := hP.go hX f2 T2
          have hX2 := hX.f f2.r
          · refine V_aln (pc := 59) dX1_readPiece_59 rfl rfl ?_
            refine V_iln (pc := 60) dX1_readPiece_60 rfl rfl ?_
            refine V_iln (pc := 61) dX1_readPiece_61 rfl rfl ?_
            refine V_iconst (pc := 62) (v := 1) dX1_readPiece_62 (by decide) ?_
            refine V_iadd (pc := 63) dX1_readPiece_63 ?_
            refine V_cVv0 (pc := 64) (jc_X1_108 dX1_readPiece_64 rfl) rfl rfl (Nat.le_of_ble_eq_true rfl) hX2.1.1 ?_
            rw [nI_1]
            have er : rdP tp L key (f + 1) 5 bk nn s o = _ := rdP_t y.1 y.2 l8
            have rk := rdP_ok tp L key f 5 bk (nn + 1) (nxs tp L s) o nk.1
            have rk1 := rk.1.1
            have rk2 := rk.1.2.1
            refine ip (d + 19) bk (nn + 1) (nxs tp L s) o S2 _ nk.1 (by omega) hb (by omega) (by unfold fuN; rw [if_pos (by omega)]; omega) (by omega) P2 ⟨fun S3 r1 P3 => ?_, fun S3 r0 P3 => ?_⟩
            · have hX3 := hX0.f P3.1
              rw [if_pos r1] at er
              refine V_aln (pc := 67) dX1_readPiece_67 rfl rfl ?_
              refine V_bipush (pc := 68) (v := (-33)) dX1_readPiece_68 (by decide) ?_
              refine V_cVv0 (pc := 70) (jc_X1_115 dX1_readPiece_70 rfl) rfl rfl (Nat.le_of_ble_eq_true rfl) hX3.1.1 ?_
              refine r_sign hX3 P3 (by omega) (v := 33) rfl (fun S4 P4 => ?_)
              refine V_goto (pc := 73) (t := 115) dX1_readPiece_73 (by decide) ?_
              refine V_ret (pc := 115) dX1_readPiece_115 rfl ?_
              exact hR.1 S4 (by rw [er]) (by rw [er]; exact P4)
            · have hX3 := hX0.f P3.1
              rw [if_neg (by rw [r0]; decide)] at er
              refine V_aln (pc := 67) dX1_readPiece_67 rfl rfl ?_
              refine V_bipush (pc := 68) (v := (-33)) dX1_readPiece_68 (by decide) ?_
              refine V_cVv0 (pc := 70) (jc_X1_115 dX1_readPiece_70 rfl) rfl rfl (Nat.le_of_ble_eq_true rfl) hX3.1.1 ?_
              refine r_signF hX3 P3 (fun S4 P4 => ?_)
              refine V_goto (pc := 73) (t := 115) dX1_readPiece_73 (by decide) ?_
              refine V_ret (pc := 115) dX1_readPiece_115 rfl ?_
              exact hR.2 S4 (by rw [er]; exact r0) (by rw [er]; exact P4)
    · have y1 : s.2.2 = 1 := (tok_w hX ht hP.2.1.2).mp h26
      refine V_aln (pc := 29) dX1_readPiece_29 rfl rfl ?_
      refine V_aln (pc := 30) dX1_readPiece_30 rfl rfl ?_
      refine V_cVi0 (pc := 31) (jc_X1_125 dX1_readPiece_31 rfl) rfl rfl (Nat.le_of_ble_eq_true rfl) hX.1.1 ?_
      refine r_name hX hx ht hP.2.1 hP.2.2.1 y1 hkey hP.2.2.2.2.1 (fun l1 l2 => ?_) (fun l0 => ?_)
      · have er : rdP tp L key (f + 1) 5 bk nn s o = _ := rdP_w ⟨y1, l1, l2⟩
        refine V_cVv0 (pc := 34) (jc_X1_122 dX1_readPiece_34 rfl) rfl rfl (Nat.le_of_ble_eq_true rfl) hX.1.1 ?_
        refine r_piece hX ht hP ho (w := 1) (vv := tp s.1) (Or.inr rfl) (Or.inl y1) rfl (enc_1 _ _) (fun S2 P2 => ?_)
        refine V_goto (pc := 37) (t := 115) dX1_readPiece_37 (by decide) ?_
        refine V_ret (pc := 115) dX1_readPiece_115 rfl ?_
        exact hR.1 S2 (by rw [er]) (by rw [er]; exact P2)
      · have er : rdP tp L key (f + 1) 5 bk nn s o = (false, s, o) := rdP_f (by omega) (fun q => l0 q.2) (by omega) (by omega)
        refine V_cVv0 (pc := 34) (jc_X1_122 dX1_readPiece_34 rfl) rfl rfl (Nat.le_of_ble_eq_true rfl) hX.1.1 ?_
        refine r_pieceF hX ht hP ho (fun S2 P2 => ?_)
        refine V_goto (pc := 37) (t := 115) dX1_readPiece_37 (by decide) ?_
        refine V_ret (pc := 115) dX1_readPiece_115 rfl ?_
        exact hR.2 S2 (by rw [er]) (by rw [er]; exact P2)
  · have e5 : gI S 35 (ct 0) = nI s.2.1 := by
      rcases (tok_n hX ht hP.2.1.2).mp h6 with q | ⟨_, _, q, _⟩
      · exact tok_en hP.2.1.2 (Or.inr (Or.inl q))
      · exact q
    refine V_aln (pc := 9) dX1_readPiece_9 rfl rfl ?_
    refine V_aln (pc := 10) dX1_readPiece_10 rfl rfl ?_
    refine V_cVi0 (pc := 11) (jc_X1_119 dX1_readPiece_11 rfl) rfl rfl (Nat.le_of_ble_eq_true rfl) hX.1.1 ?_
    refine r_number hX ht.2.1 ht.1 hP.2.1.1 e5 (fun l4 => ?_) (fun l4 => ?_)
    · have y2 : s.2.2 = 2 := by
        rcases (tok_n hX ht hP.2.1.2).mp h6 with q | ⟨_, _, _, q⟩
        · exact q
        · omega
      have er : rdP tp L key (f + 1) 5 bk nn s o = _ := rdP_n y2
      obtain ⟨vd, hvd, ed⟩ := dgt_n (tp := tp) (p := s.1) (s.2.1 - s.1) l4 (fun j h1 h2 => (hP.2.2.1.1 y2).2 j h1 (by omega))
      refine V_cVv0 (pc := 14) (jc_X1_122 dX1_readPiece_14 rfl) rfl rfl (Nat.le_of_ble_eq_true rfl) hX.1.1 ?_
      refine r_piece hX ht hP ho (w := 0) (vv := dgt tp s.1 (s.2.1 - s.1)) (Or.inl rfl) (Or.inr y2) (by unfold enc; rw [if_pos rfl]) (by rw [ed]; have p4 : (10 : Nat) ^ (s.2.1 - s.1) ≤ 10 ^ 4 := Nat.pow_le_pow_right (by decide) l4; exact nI_nm (by omega)) (fun S2 P2 => ?_)
      refine V_goto (pc := 17) (t := 115) dX1_readPiece_17 (by decide) ?_
      refine V_ret (pc := 115) dX1_readPiece_115 rfl ?_
      exact hR.1 S2 (by rw [er]) (by rw [er]; exact P2)
    · have y4 : s.2.2 = 4 := by
        rcases (tok_n hX ht hP.2.1.2).mp h6 with q | ⟨q, _⟩
        · have := (hP.2.2.1.1 q).1; omega
        · exact q
      have er : rdP tp L key (f + 1) 5 bk nn s o = (false, s, o) := rdP_f (by omega) (by omega) (by omega) (by omega)
      refine V_cVv0 (pc := 14) (jc_X1_122 dX1_readPiece_14 rfl) rfl rfl (Nat.le_of_ble_eq_true rfl) hX.1.1 ?_
      refine r_pieceF hX ht hP ho (fun S2 P2 => ?_)
      refine V_goto (pc := 17) (t := 115) dX1_readPiece_17 (by decide) ?_
      refine V_ret (pc := 115) dX1_readPiece_115 rfl ?_
      exact hR.2 S2 (by rw [er]) (by rw [er]; exact P2)
theorem k_all {x : pX} {S0 : pS} {ct : Nat → Nat} {tp : Nat → Int32} {L : Nat} {key : Int32} (hX0 : RX S0 ct tp L) (hx : XS x) (hkey : key = 0 ∨ key = 1 ∨ key = 2) : ∀ f, KP5 x S0 ct tp L key f ∧ (∀ md, md < 5 → KLv x S0 ct tp L key md f ∧ KLo x S0 ct tp L key md f) := by
  intro f
  induction f with
  | zero =>
    refine ⟨?_, fun md hmd => ⟨?_, ?_⟩⟩
    · intro D bk nn s o S Q ht ho hb hn hf; exfalso; unfold fuN at hf; rw [if_pos (by omega)] at hf; omega
    · intro D bk nn s o S Q ht ho hb hn hf; exfalso; unfold fuN at hf; rw [if_pos (by omega)] at hf; omega
    · intro D bk nn s o S Q i ms ht ho hb hn hf; exfalso; unfold fuN at hf; rw [if_neg (by omega)] at hf; omega
  | succ f ih =>
    obtain ⟨i5, il⟩ := ih
    have nx : ∀ md, md < 5 → KLv x S0 ct tp L key (md + 1) f := fun md hmd => by
      by_cases e : md = 4
      · subst e; exact k_l5 hX0 i5
      · exact (il (md + 1) (by omega)).1
    exact ⟨k_p5 hX0 hx hkey i5 (il 0 (by decide)).1, fun md hmd => ⟨k_lv hX0 hmd (nx md hmd) (il md hmd).2, k_lo hX0 hmd (nx md hmd) (il md hmd).2⟩⟩
