/-! ===== the model: text ===== -/
/-- the tape read as a text: its key or -1, what was ahead last, its steps -/
def rdT (tp : Nat → Int32) (L : Nat) : Int32 × tk × sps :=
  if fkey tp (nxt tp L 0 3) < 0 then (-1, nxt tp L 0 3, [])
  else if (rdP tp L (fkey tp (nxt tp L 0 3)) 700 0 0 0 (nxs tp L (nxt tp L 0 3)) []).1 = true ∧ (rdP tp L (fkey tp (nxt tp L 0 3)) 700 0 0 0 (nxs tp L (nxt tp L 0 3)) []).2.1.2.2 = 0 then (fkey tp (nxt tp L 0 3), (rdP tp L (fkey tp (nxt tp L 0 3)) 700 0 0 0 (nxs tp L (nxt tp L 0 3)) []).2)
  else (-1, (rdP tp L (fkey tp (nxt tp L 0 3)) 700 0 0 0 (nxs tp L (nxt tp L 0 3)) []).2)
def zAt (nt : Nat) : Nat := if nt < 14 then 158 + 200 * nt else 2954
set_option maxRecDepth 100000 in
set_option maxHeartbeats 4000000 in
theorem m_parse_63 {x : pX} {d : Nat} {S : pS} {m : Nat} {as : Nat → Nat} {b : Nat × Nat} {Q : Int32 → pS → Prop} (hM : MF S m as) {A : Nat → Nat → Int32} {F G tp : Nat → Int32} {L nt : Nat} (hT : A 300 = tp) (hL : F 301 = nI L) (h96 : L ≤ 96) (hn : A 288 1 = nI nt) (hn14 : nt ≤ 14) (g3 : G 303 = nI 0) (g4 : G 304 = nI 3) (g7 : G 307 = nI 0) (g8 : G 308 = nI 0) (g9 : G 309 = nI 0) (g11 : G 311 = nI 0) (g10 : G 310 = nI (zAt nt)) (gf : ∀ f, (f < 302 ∨ 311 < f) → G f = F f) (h : ∀ F2, F2 302 = nI (rdT tp L).2.1.1 → F2 301 = 0 → (∀ f, (f < 301 ∨ 311 < f) → F2 f = F f) → (0 ≤ (rdT tp L).1 → F2 309 = nI (rdT tp L).2.2.length ∧ F2 311 = nI (cntN (rdT tp L).2.2)) → Q (rdT tp L).1 (mP S m as (uA A (stl (A 288) (zAt nt) (rdT tp L).2.2)) F2)) : V x (d + 705) M_X9_parse (qi Q) b 63 [(0, .ref m)] [] (mP S m as A G) := by
  have eA : uA A (stl (A 288) (zAt nt) []) = A := by rw [stl_0, uA_self]
  have hz : zAt nt ≤ 2954 := by unfold zAt; split <;> omega
  refine V_aln (pc := 63) dX9_parse_63 rfl rfl ?_
  refine V_cVv0 (pc := 64) (jc_X9_248 dX9_parse_64 rfl) rfl rfl (Nat.le_of_ble_eq_true rfl) (mF_k hM) ?_
  have ok := nxt_ok tp (L := L) (e := 0) 3 (by omega)
  refine m_nextToken hM (L := L) (tp := tp) hT ((gf 301 (by decide)).trans hL) h96 (Nat.zero_le _) g3 g4 (by decide) (by decide) (fun Fn nf nt1 => ?_)
  refine V_aln (pc := 67) dX9_parse_67 rfl rfl ?_
  refine V_cVi0 (pc := 68) (jc_X9_283 dX9_parse_68 rfl) rfl rfl (Nat.le_of_ble_eq_true rfl) (mF_k hM) ?_
  refine m_key hM hT h96 ok.1 nt1 ?_
  refine V_isn (pc := 71) (fun y => [(0, .ref m), (1, .int y)]) dX9_parse_71 rfl (by decide) (fun _ => rfl) (fun y71 ey71 => ?_)
  refine V_iln (pc := 72) dX9_parse_72 rfl rfl ?_
  refine V_lt (pc := 73) (t := 80) dX9_parse_73 (by decide) (fun h73 => ?_) (fun h73 => ?_)
  · unfold rdT at h
    rw [if_pos (by rw [← ey71]; exact h73)] at h
    rw [stl_0, uA_self] at h
    refine V_iconst (pc := 80) (v := 0) dX9_parse_80 (by decide) ?_
    refine V_isn (pc := 81) (fun y => [(0, .ref m), (1, .int y71), (2, .int y)]) dX9_parse_81 rfl (by decide) (fun _ => rfl) (fun y81 ey81 => ?_)
    refine V_iln (pc := 82) dX9_parse_82 rfl rfl ?_
    refine V_eq (pc := 83) (t := 111) dX9_parse_83 (by decide) (fun h83 => ?_) (fun h83 => ?_)
    · refine V_aln (pc := 111) dX9_parse_111 rfl rfl ?_
      refine V_iconst (pc := 112) (v := 0) dX9_parse_112 (by decide) ?_
      refine M_pi (pc := 113) hM 13 301 dX9_parse_113 (FL_X9_199 rfl) rfl rfl rfl ?_
      refine V_iln (pc := 116) dX9_parse_116 rfl rfl ?_
      refine V_eq (pc := 117) (t := 124) dX9_parse_117 (by decide) (fun h117 => ?_) (fun h117 => ?_)
      · refine V_iconst (pc := 124) (v := (-1)) dX9_parse_124 (by decide) ?_
        refine V_iret (pc := 125) dX9_parse_125 rfl rfl ?_
        exact h _ (by rw [va_up_ne _ _ (by decide)]; exact nt1.1.1) (va_up_self _ _ _) (fun f hf => by rw [va_up_ne _ _ (by omega), nf f (by omega), gf f (by omega)]) (fun q => absurd q (show ¬ (0 : Int32) ≤ -1 by decide))
      · exact absurd ey81 h117
    · exact absurd ey81 h83
  · subst ey71
    have hk0 : ¬ fkey tp (nxt tp L 0 3) < 0 := h73
    unfold rdT at h
    rw [if_neg hk0] at h
    have nk := nxs_ok tp ok.1
    refine V_iconst (pc := 76) (v := 1) dX9_parse_76 (by decide) ?_
    refine V_goto (pc := 77) (t := 81) dX9_parse_77 (by decide) ?_
    refine V_isn (pc := 81) (fun y => [(0, .ref m), (1, .int (fkey tp (nxt tp L 0 3))), (2, .int y)]) dX9_parse_81 rfl (by decide) (fun _ => rfl) (fun y81 ey81 => ?_)
    refine V_iln (pc := 82) dX9_parse_82 rfl rfl ?_
    refine V_eq (pc := 83) (t := 111) dX9_parse_83 (by decide) (fun h83 => ?_) (fun h83 => ?_)
    · exact absurd (ey81.symm.trans h83) (by decide)
    · refine V_aln (pc := 86) dX9_parse_86 rfl rfl ?_
      refine V_cVv0 (pc := 87) (jc_X9_248 dX9_parse_87 rfl) rfl rfl (Nat.le_of_ble_eq_true rfl) (mF_k hM) ?_
      refine m_nextToken hM (L := L) (tp := tp) hT ((nf 301 (by decide)).trans ((gf 301 (by decide)).trans hL)) h96 ok.1.1 nt1.1.2.1 nt1.1.2.2 ok.1.2.2.2 (by have := ok.1.2.2.1; omega) (fun Fm mf mt => ?_)
      refine V_aln (pc := 90) dX9_parse_90 rfl rfl ?_
      refine V_iln (pc := 91) dX9_parse_91 rfl rfl ?_
      refine V_cVi0 (pc := 92) (jc_X9_277 dX9_parse_92 rfl) rfl rfl (Nat.le_of_ble_eq_true rfl) (mF_k hM) ?_
      rw [← eA]
      refine (m_read (F0 := F) hM hT hL h96 (z := zAt nt) hz 700).1 d 0 0 (nxs tp L (nxt tp L 0 3)) [] Fm _ nk.1 (Nat.zero_le _) (by decide) (by decide) (by unfold fuN; rw [if_pos (by decide)]; omega) ⟨mt, ⟨(mf _ (by decide)).trans ((nf _ (by decide)).trans g7), (mf _ (by decide)).trans ((nf _ (by decide)).trans g8), (mf _ (by decide)).trans ((nf _ (by decide)).trans g9), (mf _ (by decide)).trans ((nf _ (by decide)).trans g10), (mf _ (by decide)).trans ((nf _ (by decide)).trans g11)⟩, fun f hf => (mf f (by omega)).trans ((nf f (by omega)).trans (gf f hf))⟩ (fun F2 r1 hP4 => ?_) (fun F2 r0 hP4 => ?_)
      · have rk := rdP_ok tp L (fkey tp (nxt tp L 0 3)) 700 0 0 0 _ [] nk.1
        refine V_eq (pc := 95) (t := 109) dX9_parse_95 (by decide) (fun h => absurd h (by decide)) (fun _ => ?_)
        refine V_aln (pc := 98) dX9_parse_98 rfl rfl ?_
        refine M_gi (pc := 99) hM 16 304 dX9_parse_99 (FL_X9_214 rfl) rfl rfl ?_
        refine V_ne (pc := 102) (t := 109) dX9_parse_102 (by decide) (fun h102 => ?_) (fun h102 => ?_)
        · rw [if_neg (fun q => h102 (by rw [hP4.1.1.2.2, q.2]; rfl))] at h
          refine V_iconst (pc := 109) (v := 0) dX9_parse_109 (by decide) ?_
          refine V_isn (pc := 110) (fun y => [(0, .ref m), (1, .int (fkey tp (nxt tp L 0 3))), (2, .int y)]) dX9_parse_110 rfl (by decide) (fun _ => rfl) (fun y110 ey110 => ?_)
          refine V_aln (pc := 111) dX9_parse_111 rfl rfl ?_
          refine V_iconst (pc := 112) (v := 0) dX9_parse_112 (by decide) ?_
          refine M_pi (pc := 113) hM 13 301 dX9_parse_113 (FL_X9_199 rfl) rfl rfl rfl ?_
          refine V_iln (pc := 116) dX9_parse_116 rfl rfl ?_
          refine V_eq (pc := 117) (t := 124) dX9_parse_117 (by decide) (fun h117 => ?_) (fun h117 => ?_)
          · refine V_iconst (pc := 124) (v := (-1)) dX9_parse_124 (by decide) ?_
            refine V_iret (pc := 125) dX9_parse_125 rfl rfl ?_
            exact h _ (by rw [va_up_ne _ _ (by decide)]; exact hP4.1.1.1) (va_up_self _ _ _) (fun f hf => by rw [va_up_ne _ _ (by omega)]; exact hP4.2.2 f (by omega)) (fun q => absurd q (show ¬ (0 : Int32) ≤ -1 by decide))
          · exact absurd ey110 h117
        · rw [if_pos ⟨r1, (nI_eq (b := 0) (by have := rk.1.2.2.2; omega) (by decide)).mp (by rw [← hP4.1.1.2.2]; exact h102)⟩] at h
          refine V_iconst (pc := 105) (v := 1) dX9_parse_105 (by decide) ?_
          refine V_goto (pc := 106) (t := 110) dX9_parse_106 (by decide) ?_
          refine V_isn (pc := 110) (fun y => [(0, .ref m), (1, .int (fkey tp (nxt tp L 0 3))), (2, .int y)]) dX9_parse_110 rfl (by decide) (fun _ => rfl) (fun y110 ey110 => ?_)
          refine V_aln (pc := 111) dX9_parse_111 rfl rfl ?_
          refine V_iconst (pc := 112) (v := 0) dX9_parse_112 (by decide) ?_
          refine M_pi (pc := 113) hM 13 301 dX9_parse_113 (FL_X9_199 rfl) rfl rfl rfl ?_
          refine V_iln (pc := 116) dX9_parse_116 rfl rfl ?_
          refine V_eq (pc := 117) (t := 124) dX9_parse_117 (by decide) (fun h117 => ?_) (fun h117 => ?_)
          · exact absurd (ey110.symm.trans h117) (by decide)
          · refine V_iln (pc := 120) dX9_parse_120 rfl rfl ?_
            refine V_goto (pc := 121) (t := 125) dX9_parse_121 (by decide) ?_
            refine V_iret (pc := 125) dX9_parse_125 rfl rfl ?_
            exact h _ (by rw [va_up_ne _ _ (by decide)]; exact hP4.1.1.1) (va_up_self _ _ _) (fun f hf => by rw [va_up_ne _ _ (by omega)]; exact hP4.2.2 f (by omega)) (fun _ => ⟨by rw [va_up_ne _ _ (by decide)]; exact hP4.2.1.2.2.1, by rw [va_up_ne _ _ (by decide)]; exact hP4.2.1.2.2.2.2⟩)
      · rw [if_neg (fun q => by rw [r0] at q; exact absurd q.1 (by decide))] at h
        refine V_eq (pc := 95) (t := 109) dX9_parse_95 (by decide) (fun _ => ?_) (fun h => absurd h (by decide))
        refine V_iconst (pc := 109) (v := 0) dX9_parse_109 (by decide) ?_
        refine V_isn (pc := 110) (fun y => [(0, .ref m), (1, .int (fkey tp (nxt tp L 0 3))), (2, .int y)]) dX9_parse_110 rfl (by decide) (fun _ => rfl) (fun y110 ey110 => ?_)
        refine V_aln (pc := 111) dX9_parse_111 rfl rfl ?_
        refine V_iconst (pc := 112) (v := 0) dX9_parse_112 (by decide) ?_
        refine M_pi (pc := 113) hM 13 301 dX9_parse_113 (FL_X9_199 rfl) rfl rfl rfl ?_
        refine V_iln (pc := 116) dX9_parse_116 rfl rfl ?_
        refine V_eq (pc := 117) (t := 124) dX9_parse_117 (by decide) (fun h117 => ?_) (fun h117 => ?_)
        · refine V_iconst (pc := 124) (v := (-1)) dX9_parse_124 (by decide) ?_
          refine V_iret (pc := 125) dX9_parse_125 rfl rfl ?_
          exact h _ (by rw [va_up_ne _ _ (by decide)]; exact hP4.1) (va_up_self _ _ _) (fun f hf => by rw [va_up_ne _ _ (by omega)]; exact hP4.2 f (by omega)) (fun q => absurd q (show ¬ (0 : Int32) ≤ -1 by decide))
        · exact absurd ey110 h117
set_option maxRecDepth 100000 in
set_option maxHeartbeats 4000000 in
theorem m_parse {x : pX} {d : Nat} {S : pS} {m : Nat} {as : Nat → Nat} {A : Nat → Nat → Int32} {F : Nat → Int32} {Q : Int32 → pS → Prop} (hM : MF S m as) {tp : Nat → Int32} {L nt : Nat} (hT : A 300 = tp) (hL : F 301 = nI L) (h96 : L ≤ 96) (hn : A 288 1 = nI nt) (hn14 : nt ≤ 14) (h : ∀ F2, F2 302 = nI (rdT tp L).2.1.1 → F2 301 = 0 → (∀ f, (f < 301 ∨ 311 < f) → F2 f = F f) → (0 ≤ (rdT tp L).1 → F2 309 = nI (rdT tp L).2.2.length ∧ F2 311 = nI (cntN (rdT tp L).2.2)) → Q (rdT tp L).1 (mP S m as (uA A (stl (A 288) (zAt nt) (rdT tp L).2.2)) F2)) : PI x (d + 705) M_X9_parse [.ref m] (mP S m as A F) Q := by
  refine PM_of (by decide +kernel) (Nat.le_of_ble_eq_true rfl) ?_
  show V x (d + 705) M_X9_parse (qi Q) (0, 0) 0 [(0, .ref m)] [] (mP S m as A F)
  refine V_aln (pc := 0) dX9_parse_0 rfl rfl ?_
  refine V_iconst (pc := 1) (v := 0) dX9_parse_1 (by decide) ?_
  refine M_pi (pc := 2) hM 15 303 dX9_parse_2 (FL_X9_211 rfl) rfl rfl rfl ?_
  refine V_aln (pc := 5) dX9_parse_5 rfl rfl ?_
  refine V_iconst (pc := 6) (v := 3) dX9_parse_6 (by decide) ?_
  refine M_pi (pc := 7) hM 16 304 dX9_parse_7 (FL_X9_214 rfl) rfl rfl rfl ?_
  refine V_aln (pc := 10) dX9_parse_10 rfl rfl ?_
  refine V_iconst (pc := 11) (v := 0) dX9_parse_11 (by decide) ?_
  refine M_pi (pc := 12) hM 19 307 dX9_parse_12 (FL_X9_274 rfl) rfl rfl rfl ?_
  refine V_aln (pc := 15) dX9_parse_15 rfl rfl ?_
  refine V_iconst (pc := 16) (v := 0) dX9_parse_16 (by decide) ?_
  refine M_pi (pc := 17) hM 20 308 dX9_parse_17 (FL_X9_271 rfl) rfl rfl rfl ?_
  refine V_aln (pc := 20) dX9_parse_20 rfl rfl ?_
  refine V_iconst (pc := 21) (v := 0) dX9_parse_21 (by decide) ?_
  refine M_pi (pc := 22) hM 21 309 dX9_parse_22 (FL_X9_239 rfl) rfl rfl rfl ?_
  refine V_aln (pc := 25) dX9_parse_25 rfl rfl ?_
  refine V_iconst (pc := 26) (v := 0) dX9_parse_26 (by decide) ?_
  refine M_pi (pc := 27) hM 23 311 dX9_parse_27 (FL_X9_266 rfl) rfl rfl rfl ?_
  refine V_aln (pc := 30) dX9_parse_30 rfl rfl ?_
  refine V_aln (pc := 31) dX9_parse_31 rfl rfl ?_
  refine M_gr (pc := 32) hM 0 288 dX9_parse_32 (FL_X9_7 rfl) rfl rfl (by decide) ?_
  refine V_iconst (pc := 35) (v := 1) dX9_parse_35 (by decide) ?_
  refine M_ia (pc := 36) hM 288 1 dX9_parse_36 (by decide) (by decide) (by simp only [fa_lit, nI_add, pk_mul]) (by show (_ : Nat) < 3154; omega) ?_
  refine V_bipush (pc := 37) (v := 14) dX9_parse_37 (by decide) ?_
  refine V_cge (pc := 39) (t := 57) dX9_parse_39 (by decide) (fun h39 => ?_) (fun h39 => ?_)
  · have q14 : ¬ nt < 14 := fun q => nI_ge (b := 14) q (by decide) (by rw [hn] at h39; exact h39)
    refine V_sipush (pc := 57) (v := 2954) dX9_parse_57 (by decide) ?_
    refine M_pi (pc := 60) hM 22 310 dX9_parse_60 (FL_X9_236 rfl) rfl rfl rfl ?_
    exact m_parse_63 hM hT hL h96 hn hn14 rfl rfl rfl rfl rfl rfl (show (2954 : Int32) = nI (zAt nt) from by unfold zAt; rw [if_neg q14, show (2954 : Int32) = nI 2954 from rfl]) (fun f hf => by repeat rw [va_up_ne _ _ (by omega)]) h
  · have q14 : nt < 14 := Nat.lt_of_not_le (fun q => h39 (by rw [hn]; exact nI_le (a := 14) q (by omega)))
    refine V_aln (pc := 42) dX9_parse_42 rfl rfl ?_
    refine V_aln (pc := 43) dX9_parse_43 rfl rfl ?_
    refine M_gr (pc := 44) hM 0 288 dX9_parse_44 (FL_X9_7 rfl) rfl rfl (by decide) ?_
    refine V_iconst (pc := 47) (v := 1) dX9_parse_47 (by decide) ?_
    refine M_ia (pc := 48) hM 288 1 dX9_parse_48 (by decide) (by decide) (by simp only [fa_lit, nI_add, pk_mul]) (by show (_ : Nat) < 3154; omega) ?_
    rw [hn]
    refine V_cVi0 (pc := 49) (jc_X9_280 dX9_parse_49 rfl) rfl rfl (Nat.le_of_ble_eq_true rfl) (mF_k hM) ?_
    refine m_textAt ?_
    refine V_iconst (pc := 52) (v := 4) dX9_parse_52 (by decide) ?_
    refine V_iadd (pc := 53) dX9_parse_53 ?_
    refine V_goto (pc := 54) (t := 60) dX9_parse_54 (by decide) ?_
    refine M_pi (pc := 60) hM 22 310 dX9_parse_60 (FL_X9_236 rfl) rfl rfl rfl ?_
    exact m_parse_63 hM hT hL h96 hn hn14 rfl rfl rfl rfl rfl rfl (show (nI (154 + 200 * nt) + 4) = nI (zAt nt) from by unfold zAt; rw [if_pos q14, show (4 : Int32) = nI 4 from rfl, nI_add, show 154 + 200 * nt + 4 = 158 + 200 * nt by omega]) (fun f hf => by repeat rw [va_up_ne _ _ (by omega)]) h
/-- what text does to the row s -/
def o_text (σ tp : Nat → Int32) (L nt : Nat) : Int32 × (Nat → Int32) :=
  if (rdT tp L).1 < 0 then (-100 - nI (rdT tp L).2.1.1, stl σ (zAt nt) (rdT tp L).2.2)
  else if nt = 14 then (-1000000003, stl σ (zAt nt) (rdT tp L).2.2)
  else (nI nt, upd (upd (upd (upd (stl σ (zAt nt) (rdT tp L).2.2) (154 + 200 * nt) (rdT tp L).1) (155 + 200 * nt) (nI (cntN (rdT tp L).2.2))) (156 + 200 * nt) (nI (rdT tp L).2.2.length)) 1 (nI (nt + 1)))
theorem stl_1 (σ : Nat → Int32) (nt : Nat) (o : sps) : stl σ (zAt nt) o 1 = σ 1 := by unfold stl; rw [if_neg (by unfold zAt; split <;> omega)]
set_option maxRecDepth 100000 in
set_option maxHeartbeats 4000000 in
theorem M_text {x : pX} {d : Nat} {S : pS} {m : Nat} {as : Nat → Nat} {A : Nat → Nat → Int32} {F : Nat → Int32} {Q : Int32 → pS → Prop} (hM : MF S m as) {tp : Nat → Int32} {L nt : Nat} (hT : A 300 = tp) (hL : F 301 = nI L) (h96 : L ≤ 96) (hn : A 288 1 = nI nt) (hn14 : nt ≤ 14) (h : ∀ F2, F2 301 = 0 → (∀ f, (f < 301 ∨ 311 < f) → F2 f = F f) → Q (o_text (A 288) tp L nt).1 (mP S m as (uA A (o_text (A 288) tp L nt).2) F2)) : PI x (d + 706) M_X9_text [.ref m] (mP S m as A F) Q := by
  refine PM_of (by decide +kernel) (Nat.le_of_ble_eq_true rfl) ?_
  show V x (d + 706) M_X9_text (qi Q) (0, 0) 0 [(0, .ref m)] [] (mP S m as A F)
  refine V_aln (pc := 0) dX9_text_0 rfl rfl ?_
  refine V_cVi0 (pc := 1) (jc_X9_286 dX9_text_1 rfl) rfl rfl (Nat.le_of_ble_eq_true rfl) (mF_k hM) ?_
  refine m_parse hM hT hL h96 hn hn14 (fun F2 f2 f1 ff fk => ?_)
  refine V_isn (pc := 4) (fun y => [(0, .ref m), (1, .int y)]) dX9_text_4 rfl (by decide) (fun _ => rfl) (fun y4 ey4 => ?_)
  refine V_iln (pc := 5) dX9_text_5 rfl rfl ?_
  refine V_ge (pc := 6) (t := 17) dX9_text_6 (by decide) (fun h6 => ?_) (fun h6 => ?_)
  · subst ey4
    unfold o_text at h
    rw [if_neg (Int32.not_lt.mpr h6)] at h
    have hn2 : uA A (stl (A 288) (zAt nt) (rdT tp L).2.2) 288 1 = nI nt := by rw [uA_at, stl_1]; exact hn
    refine V_aln (pc := 17) dX9_text_17 rfl rfl ?_
    refine M_gr (pc := 18) hM 0 288 dX9_text_18 (FL_X9_7 rfl) rfl rfl (by decide) ?_
    refine V_iconst (pc := 21) (v := 1) dX9_text_21 (by decide) ?_
    refine M_ia (pc := 22) hM 288 1 dX9_text_22 (by decide) (by decide) (by simp only [fa_lit, nI_add, pk_mul]) (by show (_ : Nat) < 3154; omega) ?_
    refine V_bipush (pc := 23) (v := 14) dX9_text_23 (by decide) ?_
    refine V_cne (pc := 25) (t := 31) dX9_text_25 (by decide) (fun h25 => ?_) (fun h25 => ?_)
    · have q14 : ¬ nt = 14 := fun q => h25 (by rw [hn2, q]; rfl)
      rw [if_neg q14] at h
      refine V_aln (pc := 31) dX9_text_31 rfl rfl ?_
      refine V_aln (pc := 32) dX9_text_32 rfl rfl ?_
      refine M_gr (pc := 33) hM 0 288 dX9_text_33 (FL_X9_7 rfl) rfl rfl (by decide) ?_
      refine V_iconst (pc := 36) (v := 1) dX9_text_36 (by decide) ?_
      refine M_ia (pc := 37) hM 288 1 dX9_text_37 (by decide) (by decide) (by simp only [fa_lit, nI_add, pk_mul]) (by show (_ : Nat) < 3154; omega) ?_
      rw [hn2]
      refine V_cVi0 (pc := 38) (jc_X9_280 dX9_text_38 rfl) rfl rfl (Nat.le_of_ble_eq_true rfl) (mF_k hM) ?_
      refine m_textAt ?_
      refine V_isn (pc := 41) (fun y => [(0, .ref m), (1, .int ((rdT tp L).1)), (2, .int y)]) dX9_text_41 rfl (by decide) (fun _ => rfl) (fun y41 ey41 => ?_)
      subst ey41
      refine V_aln (pc := 42) dX9_text_42 rfl rfl ?_
      refine M_gr (pc := 43) hM 0 288 dX9_text_43 (FL_X9_7 rfl) rfl rfl (by decide) ?_
      refine V_iln (pc := 46) dX9_text_46 rfl rfl ?_
      refine V_iconst (pc := 47) (v := 0) dX9_text_47 (by decide) ?_
      refine V_iadd (pc := 48) dX9_text_48 ?_
      refine V_iln (pc := 49) dX9_text_49 rfl rfl ?_
      refine M_iasS (pc := 50) hM ((154 + 200 * nt)) dX9_text_50 (by rw [show (0 : Int32) = nI 0 from rfl, nI_add]; rfl) (by show (_ : Nat) < 3154; omega) ?_
      refine V_aln (pc := 51) dX9_text_51 rfl rfl ?_
      refine M_gr (pc := 52) hM 0 288 dX9_text_52 (FL_X9_7 rfl) rfl rfl (by decide) ?_
      refine V_iln (pc := 55) dX9_text_55 rfl rfl ?_
      refine V_iconst (pc := 56) (v := 1) dX9_text_56 (by decide) ?_
      refine V_iadd (pc := 57) dX9_text_57 ?_
      refine V_aln (pc := 58) dX9_text_58 rfl rfl ?_
      refine M_gi (pc := 59) hM 23 311 dX9_text_59 (FL_X9_266 rfl) rfl rfl ?_
      rw [(fk h6).2]
      refine M_iasS (pc := 62) hM ((155 + 200 * nt)) dX9_text_62 (by rw [show (1 : Int32) = nI 1 from rfl, nI_add]; congr 1; omega) (by show (_ : Nat) < 3154; omega) ?_
      refine V_aln (pc := 63) dX9_text_63 rfl rfl ?_
      refine M_gr (pc := 64) hM 0 288 dX9_text_64 (FL_X9_7 rfl) rfl rfl (by decide) ?_
      refine V_iln (pc := 67) dX9_text_67 rfl rfl ?_
      refine V_iconst (pc := 68) (v := 2) dX9_text_68 (by decide) ?_
      refine V_iadd (pc := 69) dX9_text_69 ?_
      refine V_aln (pc := 70) dX9_text_70 rfl rfl ?_
      refine M_gi (pc := 71) hM 21 309 dX9_text_71 (FL_X9_239 rfl) rfl rfl ?_
      rw [(fk h6).1]
      refine M_iasS (pc := 74) hM ((156 + 200 * nt)) dX9_text_74 (by rw [show (2 : Int32) = nI 2 from rfl, nI_add]; congr 1; omega) (by show (_ : Nat) < 3154; omega) ?_
      refine V_aln (pc := 75) dX9_text_75 rfl rfl ?_
      refine M_gr (pc := 76) hM 0 288 dX9_text_76 (FL_X9_7 rfl) rfl rfl (by decide) ?_
      refine V_iconst (pc := 79) (v := 1) dX9_text_79 (by decide) ?_
      refine V_dup2 (pc := 80) dX9_text_80 rfl rfl ?_
      refine M_ia (pc := 81) hM 288 1 dX9_text_81 (by decide) (by decide) (by simp only [fa_lit, nI_add, pk_mul]) (by show (_ : Nat) < 3154; omega) ?_
      refine V_iconst (pc := 82) (v := 1) dX9_text_82 (by decide) ?_
      refine V_iadd (pc := 83) dX9_text_83 ?_
      refine M_iasS (pc := 84) hM 1 dX9_text_84 (by simp only [fa_lit, nI_add, pk_mul]) (by show (_ : Nat) < 3154; omega) ?_
      refine V_aln (pc := 85) dX9_text_85 rfl rfl ?_
      refine M_gr (pc := 86) hM 0 288 dX9_text_86 (FL_X9_7 rfl) rfl rfl (by decide) ?_
      refine V_iconst (pc := 89) (v := 1) dX9_text_89 (by decide) ?_
      refine M_ia (pc := 90) hM 288 1 dX9_text_90 (by decide) (by decide) (by simp only [fa_lit, nI_add, pk_mul]) (by show (_ : Nat) < 3154; omega) ?_
      refine V_iconst (pc := 91) (v := 1) dX9_text_91 (by decide) ?_
      refine V_isub (pc := 92) dX9_text_92 ?_
      refine V_iret (pc := 93) dX9_text_93 rfl rfl ?_
      have e1 : ∀ a c l : Int32, upd (upd (upd (stl (A 288) (zAt nt) (rdT tp L).2.2) (154 + 200 * nt) a) (155 + 200 * nt) c) (156 + 200 * nt) l 1 = nI nt := fun a c l => by rw [pk_un (by omega), pk_un (by omega), pk_un (by omega), stl_1, hn]
      simp only [uA_at, uA_uA]
      rw [e1, nI_1, pk_us, show (1 : Int32) = nI 1 from rfl, nI_sub (by omega), Nat.add_sub_cancel]
      exact h F2 f1 ff
    · have q14 : nt = 14 := (nI_eq (b := 14) (by omega) (by decide)).mp (by rw [← hn2]; exact h25)
      rw [if_pos q14] at h
      refine V_ldc (pc := 28) dX9_text_28 (KC_X9_83 rfl) ?_
      refine V_iret (pc := 30) dX9_text_30 rfl rfl ?_
      exact h F2 f1 ff
  · unfold o_text at h
    rw [if_pos (by rw [← ey4]; exact Int32.not_le.mp h6)] at h
    refine V_bipush (pc := 9) (v := (-100)) dX9_text_9 (by decide) ?_
    refine V_aln (pc := 11) dX9_text_11 rfl rfl ?_
    refine M_gi (pc := 12) hM 14 302 dX9_text_12 (FL_X9_217 rfl) rfl rfl ?_
    refine V_isub (pc := 15) dX9_text_15 ?_
    refine V_iret (pc := 16) dX9_text_16 rfl rfl ?_
    rw [f2]; exact h F2 f1 ff
