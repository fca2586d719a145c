/-! ===== the class's own methods: slots, the tape, what waits ===== -/
set_option maxRecDepth 100000 in
set_option maxHeartbeats 1000000 in
theorem C_ask {x : pX} {d : Nat} {S : pS} {Q : Int32 → pS → Prop} {cc m : Nat} {lv im tr ct as : Nat → Nat} {A : Nat → Nat → Int32} {F : Nat → Int32} {n nt np : Nat} (hI : IV S cc m lv im tr ct as A F n nt np) (hx : XA x) {s q : Int32} (h : ∀ S2 n2 nt2 np2, NX S S2 cc m lv im tr ct as (A) (F) n2 nt2 np2 → Q (o_ask (A 295) (A 296) (A 297) s q) S2) : PI x (d + 3) M_X8_ask [.ref cc, .int s, .int q] S Q := by
  have hC := hI.1
  have hMF := hI.2.1
  have hS := hC.wl
  have hW := hI.2.2.1.1
  have hX := hI.2.2.1.2.1
  have hMI := hI.2.2.1.2.2.1
  have hV := hI.2.2.1.2.2.2
  have hn := hMI.1.1
  have hn10 := hMI.1.2
  have ht := hMI.2.1.1
  have ht14 := hMI.2.1.2
  have hp := hMI.2.2.1.1
  have hp20 := hMI.2.2.1.2
  have hSH := hI.2.2.2.2.1
  have hSI := hSH.1
  have hSL := hI.2.2.2.2.2.1
  have hWQ := hI.2.2.2.2.2.2.1
  have hTP := hI.2.2.2.2.2.2.2
  refine PM_of (by decide +kernel) (Nat.le_of_ble_eq_true rfl) ?_
  show V x (d + 3) M_X8_ask (qi Q) (0, 0) 0 [(0, .ref cc), (1, .int s), (2, .int q)] [] S
  refine V_aln (pc := 0) dX8_ask_0 rfl rfl ?_
  refine V_iln (pc := 1) dX8_ask_1 rfl rfl ?_
  refine V_cVr0 (pc := 2) (jc_X8_290 dX8_ask_2 rfl) rfl rfl (Nat.le_of_ble_eq_true rfl) hC.1 ?_
  refine c_slotAt hC (fun k hk ek tk ck => ?_) (fun s0 => ?_)
  · subst ek
    refine V_asn (pc := 5) (ls' := [(0, .ref cc), (1, .int (nI k)), (2, .int q), (3, .ref ((ct (20 + k))))]) dX8_ask_5 rfl (by decide) rfl ?_
    refine V_aln (pc := 6) dX8_ask_6 rfl rfl ?_
    refine V_ifnull (pc := 7) (t := 17) dX8_ask_7 (by decide) ?_
    refine V_iln (pc := 10) dX8_ask_10 rfl rfl ?_
    refine V_cSi0 (pc := 11) (jc_X8_52 dX8_ask_11 rfl) rfl rfl (Nat.le_of_ble_eq_true rfl) ?_
    refine c_isKind (fun a1 a2 => ?_) (fun a0 => ?_)
    · refine V_ne (pc := 14) (t := 20) dX8_ask_14 (by decide) (fun _ => ?_) (fun h => absurd h (by decide))
      refine V_aln (pc := 20) dX8_ask_20 rfl rfl ?_
      refine V_gie (pc := 21) 3 0 96 dX8_ask_21 (FL_X8_294 rfl) rfl rfl (hC.h20 hk) (hSL.2 k hk).1 ?_
      refine V_ne (pc := 24) (t := 31) dX8_ask_24 (by decide) (fun h24 => ?_) (fun h24 => ?_)
      · refine V_aln (pc := 31) dX8_ask_31 rfl rfl ?_
        refine V_gie (pc := 32) 3 0 96 dX8_ask_32 (FL_X8_294 rfl) rfl rfl (hC.h20 hk) (hSL.2 k hk).1 ?_
        refine V_iconst (pc := 35) (v := 1) dX8_ask_35 (by decide) ?_
        refine V_cne (pc := 36) (t := 50) dX8_ask_36 (by decide) (fun h36 => ?_) (fun h36 => ?_)
        · refine V_ldc (pc := 50) dX8_ask_50 (KC_X8_103 rfl) ?_
          refine V_iret (pc := 52) dX8_ask_52 rfl rfl ?_
          first
            | (unfold o_ask at h; rw [if_pos (by omega), ck, if_neg h24, if_neg (fun q => h36 q.1)] at h; exact h S _ _ _ (NX.rf hI))
            | (unfold o_ask at h; rw [if_pos (by omega), ck, if_neg h24, en, if_neg (fun q => y0 q.2)] at h; exact h S _ _ _ (NX.rf hI))
        · refine V_aln (pc := 39) dX8_ask_39 rfl rfl ?_
          refine V_gr (pc := 40) 3 2 98 dX8_ask_40 (FL_X8_297 rfl) rfl rfl (hC.h20 hk) (hC.sl hk).2.1 ?_
          refine V_iln (pc := 43) dX8_ask_43 rfl rfl ?_
          refine V_cVi0 (pc := 44) (jc_X8_100 dX8_ask_44 rfl) rfl rfl (Nat.le_of_ble_eq_true rfl) (hC.h25 hk) ?_
          obtain ⟨⟨kd, hkd, ew, en⟩, ef⟩ := (hSL.2 k hk).2.2.1 h36
          refine c_isOf hx (hC.h25 hk) hkd ew (fun y1 => ?_) (fun y0 => ?_)
          · refine V_ne (pc := 47) (t := 53) dX8_ask_47 (by decide) (fun _ => ?_) (fun h => absurd h (by decide))
            refine V_aln (pc := 53) dX8_ask_53 rfl rfl ?_
            refine V_gr (pc := 54) 3 2 98 dX8_ask_54 (FL_X8_297 rfl) rfl rfl (hC.h20 hk) (hC.sl hk).2.1 ?_
            refine V_cVi0 (pc := 57) (jc_X8_96 dX8_ask_57 rfl) rfl rfl (Nat.le_of_ble_eq_true rfl) (hC.h25 hk) ?_
            refine c_worth (hC.h25 hk) ?_
            rw [ef]
            refine V_iret (pc := 60) dX8_ask_60 rfl rfl ?_
            unfold o_ask at h
            rw [if_pos (by omega), ck, if_neg h24, en, if_pos ⟨h36, y1⟩] at h
            exact h S _ _ _ (NX.rf hI)
          · refine V_ne (pc := 47) (t := 53) dX8_ask_47 (by decide) (fun h => absurd h (by decide)) (fun _ => ?_)
            refine V_ldc (pc := 50) dX8_ask_50 (KC_X8_103 rfl) ?_
            refine V_iret (pc := 52) dX8_ask_52 rfl rfl ?_
            first
              | (unfold o_ask at h; rw [if_pos (by omega), ck, if_neg h24, if_neg (fun q => h36 q.1)] at h; exact h S _ _ _ (NX.rf hI))
              | (unfold o_ask at h; rw [if_pos (by omega), ck, if_neg h24, en, if_neg (fun q => y0 q.2)] at h; exact h S _ _ _ (NX.rf hI))
      · refine V_ldcw (pc := 27) dX8_ask_27 (KC_X8_261 rfl) ?_
        refine V_iret (pc := 30) dX8_ask_30 rfl rfl ?_
        unfold o_ask at h
        rw [if_pos (by omega), ck, if_pos h24] at h
        exact h S _ _ _ (NX.rf hI)
    · refine V_ne (pc := 14) (t := 20) dX8_ask_14 (by decide) (fun h => absurd h (by decide)) (fun _ => ?_)
      refine V_ldc (pc := 17) dX8_ask_17 (KC_X8_60 rfl) ?_
      refine V_iret (pc := 19) dX8_ask_19 rfl rfl ?_
      unfold o_ask at h
      rw [if_neg (by omega)] at h
      exact h S _ _ _ (NX.rf hI)
  · refine V_asnN (pc := 5) (ls' := [(0, .ref cc), (1, .int s), (2, .int q), (3, .null)]) dX8_ask_5 rfl (by decide) rfl ?_
    refine V_alNn (pc := 6) dX8_ask_6 rfl rfl ?_
    refine V_ifnullN (pc := 7) (t := 17) dX8_ask_7 (by decide) ?_
    refine V_ldc (pc := 17) dX8_ask_17 (KC_X8_60 rfl) ?_
    refine V_iret (pc := 19) dX8_ask_19 rfl rfl ?_
    unfold o_ask at h
    rw [if_neg (by omega)] at h
    exact h S _ _ _ (NX.rf hI)
set_option maxRecDepth 100000 in
set_option maxHeartbeats 1000000 in
theorem C_item {x : pX} {d : Nat} {S : pS} {Q : Int32 → pS → Prop} {cc m : Nat} {lv im tr ct as : Nat → Nat} {A : Nat → Nat → Int32} {F : Nat → Int32} {n nt np : Nat} (hI : IV S cc m lv im tr ct as A F n nt np) {s p : Int32} (h : ∀ S2 n2 nt2 np2, NX S S2 cc m lv im tr ct as (A) (F) n2 nt2 np2 → Q (o_item (A 295) (A 298) (A 299) s p) S2) : PI x (d + 3) M_X8_item [.ref cc, .int s, .int p] S Q := by
  have hC := hI.1
  have hMF := hI.2.1
  have hS := hC.wl
  have hW := hI.2.2.1.1
  have hX := hI.2.2.1.2.1
  have hMI := hI.2.2.1.2.2.1
  have hV := hI.2.2.1.2.2.2
  have hn := hMI.1.1
  have hn10 := hMI.1.2
  have ht := hMI.2.1.1
  have ht14 := hMI.2.1.2
  have hp := hMI.2.2.1.1
  have hp20 := hMI.2.2.1.2
  have hSH := hI.2.2.2.2.1
  have hSI := hSH.1
  have hSL := hI.2.2.2.2.2.1
  have hWQ := hI.2.2.2.2.2.2.1
  have hTP := hI.2.2.2.2.2.2.2
  refine PM_of (by decide +kernel) (Nat.le_of_ble_eq_true rfl) ?_
  show V x (d + 3) M_X8_item (qi Q) (0, 0) 0 [(0, .ref cc), (1, .int s), (2, .int p)] [] S
  refine V_aln (pc := 0) dX8_item_0 rfl rfl ?_
  refine V_iln (pc := 1) dX8_item_1 rfl rfl ?_
  refine V_cVr0 (pc := 2) (jc_X8_290 dX8_item_2 rfl) rfl rfl (Nat.le_of_ble_eq_true rfl) hC.1 ?_
  refine c_slotAt hC (fun k hk ek tk ck => ?_) (fun s0 => ?_)
  · subst ek
    refine V_asn (pc := 5) (ls' := [(0, .ref cc), (1, .int (nI k)), (2, .int p), (3, .ref ((ct (20 + k))))]) dX8_item_5 rfl (by decide) rfl ?_
    refine V_aln (pc := 6) dX8_item_6 rfl rfl ?_
    refine V_ifnonnull (pc := 7) (t := 13) dX8_item_7 (by decide) ?_
    refine V_aln (pc := 13) dX8_item_13 rfl rfl ?_
    refine V_gie (pc := 14) 3 0 96 dX8_item_14 (FL_X8_294 rfl) rfl rfl (hC.h20 hk) (hSL.2 k hk).1 ?_
    refine V_ne (pc := 17) (t := 24) dX8_item_17 (by decide) (fun h17 => ?_) (fun h17 => ?_)
    · refine V_aln (pc := 24) dX8_item_24 rfl rfl ?_
      refine V_gie (pc := 25) 3 0 96 dX8_item_25 (FL_X8_294 rfl) rfl rfl (hC.h20 hk) (hSL.2 k hk).1 ?_
      refine V_iconst (pc := 28) (v := 2) dX8_item_28 (by decide) ?_
      refine V_ceq (pc := 29) (t := 35) dX8_item_29 (by decide) (fun h29 => ?_) (fun h29 => ?_)
      · refine V_aln (pc := 35) dX8_item_35 rfl rfl ?_
        refine V_gr (pc := 36) 3 3 99 dX8_item_36 (FL_X8_304 rfl) rfl rfl (hC.h20 hk) (hC.sl hk).2.2.1 ?_
        refine V_iln (pc := 39) dX8_item_39 rfl rfl ?_
        refine V_cVi0 (pc := 40) (jc_X8_262 dX8_item_40 rfl) rfl rfl (Nat.le_of_ble_eq_true rfl) (hC.h30 hk) ?_
        obtain ⟨e65, eR⟩ := (hSL.2 k hk).2.2.2 h29
        obtain ⟨z, hz, ez⟩ := (hSL.1 k hk).2
        have tz : (nI z).toInt = z := nI_toInt (by omega)
        refine sh_has (hC.h30 hk) hz (by rw [e65]; exact ez) (fun j hj ej tj cj => ?_) (fun j0 => ?_)
        · subst ej
          refine V_ne (pc := 43) (t := 50) dX8_item_43 (by decide) (fun _ => ?_) (fun h => absurd h (by decide))
          refine V_aln (pc := 50) dX8_item_50 rfl rfl ?_
          refine V_gr (pc := 51) 3 3 99 dX8_item_51 (FL_X8_304 rfl) rfl rfl (hC.h20 hk) (hC.sl hk).2.2.1 ?_
          refine V_iln (pc := 54) dX8_item_54 rfl rfl ?_
          refine V_cVi0 (pc := 55) (jc_X8_272 dX8_item_55 rfl) rfl rfl (Nat.le_of_ble_eq_true rfl) (hC.h30 hk) ?_
          refine sh_hasNumber (hC.h30 hk) (hC.sl hk).2.2.2 (hC.h35 hk).1 (hC.h35 hk).2 hz (by rw [e65]; exact ez) (fun j2 hj2 ej2 tj2 cj2 q => ?_) (fun j2 hj2 ej2 tj2 cj2 q => ?_) (fun j1 => absurd ⟨by omega, by omega⟩ j1)
          · have e2 : j = j2 := (nI_eq (by omega) (by omega)).mp ej2
            subst e2
            rw [eR j (by omega)] at q
            refine V_eq (pc := 58) (t := 73) dX8_item_58 (by decide) (fun h => absurd h (by decide)) (fun _ => ?_)
            refine V_aln (pc := 61) dX8_item_61 rfl rfl ?_
            refine V_gr (pc := 62) 3 3 99 dX8_item_62 (FL_X8_304 rfl) rfl rfl (hC.h20 hk) (hC.sl hk).2.2.1 ?_
            refine V_gr (pc := 65) 2 2 66 dX8_item_65 (FL_X8_269 rfl) rfl rfl (hC.h30 hk) (hC.sl hk).2.2.2 ?_
            refine V_iln (pc := 68) dX8_item_68 rfl rfl ?_
            refine V_iae (pc := 69) (N := 24) j dX8_item_69 (hC.h35 hk).1 (hC.h35 hk).2 (by decide) rfl (by omega) (eR j (by omega)) ?_
            refine V_goto (pc := 70) (t := 75) dX8_item_70 (by decide) ?_
            refine V_iret (pc := 75) dX8_item_75 rfl rfl ?_
            first
              | (unfold o_item at h; rw [if_pos (by omega), ck, if_neg (fun w => w h29), if_pos (by rw [ez, tz]; omega), cj, if_neg q] at h; exact h S _ _ _ (NX.rf hI))
              | (unfold o_item at h; rw [if_pos (by omega), ck, if_neg (fun w => w h29), if_pos (by rw [ez, tz]; omega), cj, if_pos q] at h; exact h S _ _ _ (NX.rf hI))
          · have e2 : j = j2 := (nI_eq (by omega) (by omega)).mp ej2
            subst e2
            rw [eR j (by omega)] at q
            refine V_eq (pc := 58) (t := 73) dX8_item_58 (by decide) (fun _ => ?_) (fun h => absurd h (by decide))
            refine V_ldc (pc := 73) dX8_item_73 (KC_X8_103 rfl) ?_
            refine V_iret (pc := 75) dX8_item_75 rfl rfl ?_
            first
              | (unfold o_item at h; rw [if_pos (by omega), ck, if_neg (fun w => w h29), if_pos (by rw [ez, tz]; omega), cj, if_neg q] at h; exact h S _ _ _ (NX.rf hI))
              | (unfold o_item at h; rw [if_pos (by omega), ck, if_neg (fun w => w h29), if_pos (by rw [ez, tz]; omega), cj, if_pos q] at h; exact h S _ _ _ (NX.rf hI))
        · refine V_ne (pc := 43) (t := 50) dX8_item_43 (by decide) (fun h => absurd h (by decide)) (fun _ => ?_)
          refine V_ldcw (pc := 46) dX8_item_46 (KC_X8_263 rfl) ?_
          refine V_iret (pc := 49) dX8_item_49 rfl rfl ?_
          unfold o_item at h
          rw [if_pos (by omega), ck, if_neg (fun w => w h29), if_neg (by rw [ez, tz]; omega)] at h
          exact h S _ _ _ (NX.rf hI)
      · refine V_ldc (pc := 32) dX8_item_32 (KC_X8_103 rfl) ?_
        refine V_iret (pc := 34) dX8_item_34 rfl rfl ?_
        unfold o_item at h
        rw [if_pos (by omega), ck, if_pos h29, if_neg h17] at h
        exact h S _ _ _ (NX.rf hI)
    · refine V_ldcw (pc := 20) dX8_item_20 (KC_X8_261 rfl) ?_
      refine V_iret (pc := 23) dX8_item_23 rfl rfl ?_
      unfold o_item at h
      rw [if_pos (by omega), ck, if_pos (by rw [h17]; decide), if_pos h17] at h
      exact h S _ _ _ (NX.rf hI)
  · refine V_asnN (pc := 5) (ls' := [(0, .ref cc), (1, .int s), (2, .int p), (3, .null)]) dX8_item_5 rfl (by decide) rfl ?_
    refine V_alNn (pc := 6) dX8_item_6 rfl rfl ?_
    refine V_ifnonnullN (pc := 7) (t := 13) dX8_item_7 (by decide) ?_
    refine V_ldc (pc := 10) dX8_item_10 (KC_X8_60 rfl) ?_
    refine V_iret (pc := 12) dX8_item_12 rfl rfl ?_
    unfold o_item at h
    rw [if_neg (by omega)] at h
    exact h S _ _ _ (NX.rf hI)
set_option maxRecDepth 100000 in
set_option maxHeartbeats 1000000 in
theorem C_rest {x : pX} {d : Nat} {S : pS} {Q : Int32 → pS → Prop} {cc m : Nat} {lv im tr ct as : Nat → Nat} {A : Nat → Nat → Int32} {F : Nat → Int32} {n nt np : Nat} (hI : IV S cc m lv im tr ct as A F n nt np) {s v : Int32} (h : ∀ S2 n2 nt2 np2, NX S S2 cc m lv im tr ct as (A) (F) n2 nt2 np2 → Q (o_rest (A 295) (A 296) s v) S2) : PI x (d + 3) M_X8_rest [.ref cc, .int s, .int v] S Q := by
  have hC := hI.1
  have hMF := hI.2.1
  have hS := hC.wl
  have hW := hI.2.2.1.1
  have hX := hI.2.2.1.2.1
  have hMI := hI.2.2.1.2.2.1
  have hV := hI.2.2.1.2.2.2
  have hn := hMI.1.1
  have hn10 := hMI.1.2
  have ht := hMI.2.1.1
  have ht14 := hMI.2.1.2
  have hp := hMI.2.2.1.1
  have hp20 := hMI.2.2.1.2
  have hSH := hI.2.2.2.2.1
  have hSI := hSH.1
  have hSL := hI.2.2.2.2.2.1
  have hWQ := hI.2.2.2.2.2.2.1
  have hTP := hI.2.2.2.2.2.2.2
  refine PM_of (by decide +kernel) (Nat.le_of_ble_eq_true rfl) ?_
  show V x (d + 3) M_X8_rest (qi Q) (0, 0) 0 [(0, .ref cc), (1, .int s), (2, .int v)] [] S
  refine V_aln (pc := 0) dX8_rest_0 rfl rfl ?_
  refine V_iln (pc := 1) dX8_rest_1 rfl rfl ?_
  refine V_cVr0 (pc := 2) (jc_X8_290 dX8_rest_2 rfl) rfl rfl (Nat.le_of_ble_eq_true rfl) hC.1 ?_
  refine c_slotAt hC (fun k hk ek tk ck => ?_) (fun s0 => ?_)
  · subst ek
    refine V_asn (pc := 5) (ls' := [(0, .ref cc), (1, .int (nI k)), (2, .int v), (3, .ref ((ct (20 + k))))]) dX8_rest_5 rfl (by decide) rfl ?_
    refine V_aln (pc := 6) dX8_rest_6 rfl rfl ?_
    refine V_ifnonnull (pc := 7) (t := 13) dX8_rest_7 (by decide) ?_
    refine V_aln (pc := 13) dX8_rest_13 rfl rfl ?_
    refine V_gie (pc := 14) 3 0 96 dX8_rest_14 (FL_X8_294 rfl) rfl rfl (hC.h20 hk) (hSL.2 k hk).1 ?_
    refine V_ne (pc := 17) (t := 24) dX8_rest_17 (by decide) (fun h17 => ?_) (fun h17 => ?_)
    · refine V_aln (pc := 24) dX8_rest_24 rfl rfl ?_
      refine V_gie (pc := 25) 3 0 96 dX8_rest_25 (FL_X8_294 rfl) rfl rfl (hC.h20 hk) (hSL.2 k hk).1 ?_
      refine V_iconst (pc := 28) (v := 3) dX8_rest_28 (by decide) ?_
      refine V_ceq (pc := 29) (t := 35) dX8_rest_29 (by decide) (fun h29 => ?_) (fun h29 => ?_)
      · refine V_iln (pc := 35) dX8_rest_35 rfl rfl ?_
        refine V_ne (pc := 36) (t := 45) dX8_rest_36 (by decide) (fun h36 => ?_) (fun h36 => ?_)
        · refine V_aln (pc := 45) dX8_rest_45 rfl rfl ?_
          refine V_gie (pc := 46) 3 1 97 dX8_rest_46 (FL_X8_311 rfl) rfl rfl (hC.h20 hk) rfl ?_
          refine V_iln (pc := 49) dX8_rest_49 rfl rfl ?_
          refine V_irem (pc := 50) dX8_rest_50 h36 ?_
          refine V_iret (pc := 51) dX8_rest_51 rfl rfl ?_
          first
            | (unfold o_rest at h; rw [if_pos (by omega), ck, if_neg (fun w => w h29), if_neg h36] at h; rw [(hSL.2 k hk).2.1 h29]; exact h S _ _ _ (NX.rf hI))
            | (unfold o_rest at h; rw [if_pos (by omega), ck, if_neg (fun w => w h29), if_pos h36] at h; exact h S _ _ _ (NX.rf hI))
        · refine V_ldcw (pc := 39) dX8_rest_39 (KC_X8_314 rfl) ?_
          refine V_goto (pc := 42) (t := 51) dX8_rest_42 (by decide) ?_
          refine V_iret (pc := 51) dX8_rest_51 rfl rfl ?_
          first
            | (unfold o_rest at h; rw [if_pos (by omega), ck, if_neg (fun w => w h29), if_neg h36] at h; rw [(hSL.2 k hk).2.1 h29]; exact h S _ _ _ (NX.rf hI))
            | (unfold o_rest at h; rw [if_pos (by omega), ck, if_neg (fun w => w h29), if_pos h36] at h; exact h S _ _ _ (NX.rf hI))
      · refine V_ldc (pc := 32) dX8_rest_32 (KC_X8_103 rfl) ?_
        refine V_iret (pc := 34) dX8_rest_34 rfl rfl ?_
        unfold o_rest at h
        rw [if_pos (by omega), ck, if_pos h29, if_neg h17] at h
        exact h S _ _ _ (NX.rf hI)
    · refine V_ldcw (pc := 20) dX8_rest_20 (KC_X8_261 rfl) ?_
      refine V_iret (pc := 23) dX8_rest_23 rfl rfl ?_
      unfold o_rest at h
      rw [if_pos (by omega), ck, if_pos (by rw [h17]; decide), if_pos h17] at h
      exact h S _ _ _ (NX.rf hI)
  · refine V_asnN (pc := 5) (ls' := [(0, .ref cc), (1, .int s), (2, .int v), (3, .null)]) dX8_rest_5 rfl (by decide) rfl ?_
    refine V_alNn (pc := 6) dX8_rest_6 rfl rfl ?_
    refine V_ifnonnullN (pc := 7) (t := 13) dX8_rest_7 (by decide) ?_
    refine V_ldc (pc := 10) dX8_rest_10 (KC_X8_60 rfl) ?_
    refine V_iret (pc := 12) dX8_rest_12 rfl rfl ?_
    unfold o_rest at h
    rw [if_neg (by omega)] at h
    exact h S _ _ _ (NX.rf hI)
theorem uH_ne (A : Nat → Nat → Int32) (q : hT) : uH A q 295 = q.1 ∧ uH A q 296 = q.2.1 ∧ uH A q 297 = q.2.2.1 ∧ uH A q 298 = q.2.2.2.1 ∧ uH A q 299 = q.2.2.2.2 ∧ ∀ f, (f < 295 ∨ 299 < f) → uH A q f = A f := by
  unfold uH
  refine ⟨?_, ?_, ?_, ?_, ?_, fun f hf => ?_⟩
  · rw [va_up_ne _ _ (by decide), va_up_ne _ _ (by decide), va_up_ne _ _ (by decide), va_up_ne _ _ (by decide), va_up_self]
  · rw [va_up_ne _ _ (by decide), va_up_ne _ _ (by decide), va_up_ne _ _ (by decide), va_up_self]
  · rw [va_up_ne _ _ (by decide), va_up_ne _ _ (by decide), va_up_self]
  · rw [va_up_ne _ _ (by decide), va_up_self]
  · rw [va_up_self]
  · rw [va_up_ne _ _ (by omega), va_up_ne _ _ (by omega), va_up_ne _ _ (by omega), va_up_ne _ _ (by omega), va_up_ne _ _ (by omega)]
theorem s4_fr {T : Nat → Prop} {S : pS} {a : Nat} (h : T a) (k s g t : Int32) : fr T S (s4 S a k s g t) := (((fr.rf.sI h 192 k).sI h 193 s).sI h 194 g).sI h 195 t
theorem IV.lay {S S' : pS} {cc m : Nat} {lv im tr ct as : Nat → Nat} {A : Nat → Nat → Int32} {F : Nat → Int32} {n nt np : Nat} (hI : IV S cc m lv im tr ct as A F n nt np) {s : Nat} (hs : s < 5) (hf : fr (fun b => b = ct (25 + s) ∨ b = ct (30 + s) ∨ b = ct (35 + s)) S S') {th k nn ww : Int32} {z' r' : Nat → Int32} (ht : th = 0 ∨ th = 1 ∨ th = 2 ∨ th = 3) (hz1 : ∀ i, i ≠ s → z' i = A 298 i) (hz2 : ∃ z : Nat, z ≤ 24 ∧ z' s = nI z) (hr : ∀ i j, i ≠ s → j < 24 → r' (24 * i + j) = A 299 (24 * i + j)) (h3 : th = 3 → nn = k) (h1 : th = 1 → (∃ q : Nat, q ≤ 5 ∧ gI S' 192 (ct (25 + s)) = nI q ∧ nn = nI q) ∧ fworth (gI S' 192 (ct (25 + s))) (gI S' 194 (ct (25 + s))) (gI S' 195 (ct (25 + s))) = ww) (h2 : th = 2 → gI S' 65 (ct (30 + s)) = z' s ∧ ∀ j, j < 24 → gX S' (ct (35 + s)) j = r' (24 * s + j)) : NX S (sI (sI S' 97 (ct (20 + s)) k) 96 (ct (20 + s)) th) cc m lv im tr ct as (uH A (upd (A 295) s th, upd (A 296) s nn, upd (A 297) s ww, z', r')) F n nt np := by
  obtain ⟨u1, u2, u3, u4, u5, u6⟩ := uH_ne A (upd (A 295) s th, upd (A 296) s nn, upd (A 297) s ww, z', r')
  have hF : fr (fun b => b = ct (20 + s) ∨ b = ct (25 + s) ∨ b = ct (30 + s) ∨ b = ct (35 + s)) S (sI (sI S' 97 (ct (20 + s)) k) 96 (ct (20 + s)) th) := ((show fr (fun b => b = ct (20 + s) ∨ b = ct (25 + s) ∨ b = ct (30 + s) ∨ b = ct (35 + s)) S S' from hf.mono (fun a q => Or.inr q)).sI (a := ct (20 + s)) (Or.inl rfl) 97 k).sI (a := ct (20 + s)) (Or.inl rfl) 96 th
  have g : ∀ f a, f ≠ 96 → f ≠ 97 → gI (sI (sI S' 97 (ct (20 + s)) k) 96 (ct (20 + s)) th) f a = gI S' f a := fun f a q1 q2 => by rw [gI_sI, if_neg (by omega), gI_sI, if_neg (by omega)]
  refine hI.slots hF (fun a q => ?_) u6 (sl_upd hI.2.2.2.2.2.1 hI.1 hs hF (fun i hi => ?_) (fun i j hi hj => ?_) ?_ ?_)
  · rcases q with q | q | q | q
    · exact ⟨20 + s, by omega, q⟩
    · exact ⟨25 + s, by omega, q⟩
    · exact ⟨30 + s, by omega, q⟩
    · exact ⟨35 + s, by omega, q⟩
  · rw [u1, u2, u3, u4]; exact ⟨pk_un hi, pk_un hi, pk_un hi, hz1 i hi⟩
  · rw [u5]; exact hr i j hi hj
  · rw [u1, u4]; exact ⟨by show upd (A 295) s th s = 0 ∨ upd (A 295) s th s = 1 ∨ upd (A 295) s th s = 2 ∨ upd (A 295) s th s = 3; rw [pk_us]; exact ht, hz2⟩
  · rw [u1, u2, u3, u4, u5]
    show _ = upd (A 295) s th s ∧ (upd (A 295) s th s = 3 → _ = upd (A 296) s nn s) ∧ (upd (A 295) s th s = 1 → (∃ q : Nat, q ≤ 5 ∧ _ ∧ upd (A 296) s nn s = nI q) ∧ _ = upd (A 297) s ww s) ∧ (upd (A 295) s th s = 2 → _)
    rw [pk_us, pk_us, pk_us, g 192 _ (by decide) (by decide), g 194 _ (by decide) (by decide), g 195 _ (by decide) (by decide), g 65 _ (by decide) (by decide)]
    refine ⟨by rw [gI_sI, if_pos ⟨rfl, rfl⟩], fun w => ?_, h1, h2⟩
    rw [gI_sI, if_neg (by omega), gI_sI, if_pos ⟨rfl, rfl⟩]; exact (h3 w).symm
set_option maxRecDepth 100000 in
set_option maxHeartbeats 1000000 in
theorem C_lay {x : pX} {d : Nat} {S : pS} {Q : Int32 → pS → Prop} {cc m : Nat} {lv im tr ct as : Nat → Nat} {A : Nat → Nat → Int32} {F : Nat → Int32} {n nt np : Nat} (hI : IV S cc m lv im tr ct as A F n nt np) {u th v : Int32} (h : ∀ S2 n2 nt2 np2, NX S S2 cc m lv im tr ct as (uH A (o_lay (A 288) (A 292) (A 293) (A 294) n (A 295, A 296, A 297, A 298, A 299) u th v).2) (F) n2 nt2 np2 → Q ((o_lay (A 288) (A 292) (A 293) (A 294) n (A 295, A 296, A 297, A 298, A 299) u th v).1) S2) : PI x (d + 3) M_X8_lay [.ref cc, .int u, .int th, .int v] S Q := by
  have hC := hI.1
  have hMF := hI.2.1
  have hS := hC.wl
  have hW := hI.2.2.1.1
  have hX := hI.2.2.1.2.1
  have hMI := hI.2.2.1.2.2.1
  have hV := hI.2.2.1.2.2.2
  have hn := hMI.1.1
  have hn10 := hMI.1.2
  have ht := hMI.2.1.1
  have ht14 := hMI.2.1.2
  have hp := hMI.2.2.1.1
  have hp20 := hMI.2.2.1.2
  have hSH := hI.2.2.2.2.1
  have hSI := hSH.1
  have hSL := hI.2.2.2.2.2.1
  have hWQ := hI.2.2.2.2.2.2.1
  have hTP := hI.2.2.2.2.2.2.2
  refine PM_of (by decide +kernel) (Nat.le_of_ble_eq_true rfl) ?_
  show V x (d + 3) M_X8_lay (qi Q) (0, 0) 0 [(0, .ref cc), (1, .int u), (2, .int th), (3, .int v)] [] S
  refine V_aln (pc := 0) dX8_lay_0 rfl rfl ?_
  refine V_iln (pc := 1) dX8_lay_1 rfl rfl ?_
  refine V_cVr0 (pc := 2) (jc_X8_290 dX8_lay_2 rfl) rfl rfl (Nat.le_of_ble_eq_true rfl) hC.1 ?_
  refine c_slotAt hC (fun s hs es ts cs => ?_) (fun s0 => ?_)
  · subst es
    refine V_as (pc := 5) (ls' := [(0, .ref cc), (1, .int (nI s)), (2, .int th), (3, .int v), (4, .ref ((ct (20 + s))))]) dX8_lay_5 (by decide) rfl ?_
    refine V_al (pc := 7) dX8_lay_7 rfl ?_
    refine V_ifnull (pc := 9) (t := 21) dX8_lay_9 (by decide) ?_
    refine V_iln (pc := 12) dX8_lay_12 rfl rfl ?_
    refine V_iconst (pc := 13) (v := 0) dX8_lay_13 (by decide) ?_
    refine V_iconst (pc := 14) (v := 3) dX8_lay_14 (by decide) ?_
    refine V_cSi0 (pc := 15) (jc_X8_56 dX8_lay_15 rfl) rfl rfl (Nat.le_of_ble_eq_true rfl) ?_
    refine c_within (0) (3) (by decide) (by decide) (fun a1 a2 => ?_) (fun a0 => ?_)
    · refine V_ne (pc := 18) (t := 24) dX8_lay_18 (by decide) (fun _ => ?_) (fun h => absurd h (by decide))
      refine V_al (pc := 24) dX8_lay_24 rfl ?_
      refine V_gie (pc := 26) 3 0 96 dX8_lay_26 (FL_X8_294 rfl) rfl rfl (hC.h20 hs) (hSL.2 s hs).1 ?_
      refine V_is (pc := 29) (fun y => [(0, .ref cc), (1, .int (nI s)), (2, .int th), (3, .int v), (4, .ref ((ct (20 + s)))), (5, .int y)]) dX8_lay_29 (by decide) (fun _ => rfl) (fun y29 ey29 => ?_)
      refine V_iln (pc := 31) dX8_lay_31 rfl rfl ?_
      refine V_iconst (pc := 32) (v := 1) dX8_lay_32 (by decide) ?_
      refine V_cne (pc := 33) (t := 64) dX8_lay_33 (by decide) (fun h33 => ?_) (fun h33 => ?_)
      · refine V_iln (pc := 64) dX8_lay_64 rfl rfl ?_
        refine V_iconst (pc := 65) (v := 2) dX8_lay_65 (by decide) ?_
        refine V_cne (pc := 66) (t := 106) dX8_lay_66 (by decide) (fun h66 => ?_) (fun h66 => ?_)
        · have t03 : th = 0 ∨ th = 3 := by
            obtain ⟨q, hq, eq⟩ := int_n (v := th) (N := 3) a1 a2 (by decide)
            rcases (show q = 0 ∨ q = 1 ∨ q = 2 ∨ q = 3 by omega) with w | w | w | w
            · exact Or.inl (by rw [eq, w]; rfl)
            · exact absurd (by rw [eq, w]; rfl) h33
            · exact absurd (by rw [eq, w]; rfl) h66
            · exact Or.inr (by rw [eq, w]; rfl)
          refine V_al (pc := 106) dX8_lay_106 rfl ?_
          refine V_iln (pc := 108) dX8_lay_108 rfl rfl ?_
          refine V_pi (pc := 109) 3 1 97 dX8_lay_109 (FL_X8_311 rfl) rfl rfl rfl (hC.h20 hs) ?_
          refine V_al (pc := 112) dX8_lay_112 rfl ?_
          refine V_iln (pc := 114) dX8_lay_114 rfl rfl ?_
          refine V_pi (pc := 115) 3 0 96 dX8_lay_115 (FL_X8_294 rfl) rfl rfl rfl (hC.h20 hs) ?_
          refine V_il (pc := 118) dX8_lay_118 rfl ?_
          refine V_iret (pc := 120) dX8_lay_120 rfl rfl ?_
          rw [ey29]
          have hzs := (hSL.1 s hs).2
          first
            | (have e : o_lay (A 288) (A 292) (A 293) (A 294) n (A 295, A 296, A 297, A 298, A 299) (nI s) 1 (nI i) = (A 295 s, upd (A 295) s 1, upd (A 296) s (A 288 (14 + 4 * i + 0)), upd (A 297) s (fworth (A 288 (14 + 4 * i + 0)) (A 288 (14 + 4 * i + 2)) (A 288 (14 + 4 * i + 3))), A 298, A 299) := by
                 unfold o_lay; rw [if_pos ⟨by omega, Or.inr (Or.inr (Or.inl ⟨rfl, by omega, by omega⟩))⟩, cs, ci, if_neg (fun q => absurd q.1 (by decide)), if_pos rfl, if_pos rfl, if_neg (by decide), if_neg (by decide)]
               rw [e] at h
               obtain ⟨g1, g2, g3, g4⟩ := gI_s4 S (ct (25 + s)) (A 288 (14 + 4 * i + 0)) (A 288 (14 + 4 * i + 1)) (A 288 (14 + 4 * i + 2)) (A 288 (14 + 4 * i + 3))
               obtain ⟨kd, hkd, ekd⟩ := (hV.1 i hi).1
               exact h _ _ _ _ (hI.lay hs (s4_fr (Or.inl rfl) _ _ _ _) (Or.inr (Or.inl rfl)) (fun _ _ => rfl) hzs (fun _ _ _ _ => rfl) (fun q => absurd q (by decide)) (fun _ => ⟨⟨kd, hkd, g1.trans ekd, ekd⟩, by rw [g1, g3, g4]⟩) (fun q => absurd q (by decide))))
            | (have e : o_lay (A 288) (A 292) (A 293) (A 294) n (A 295, A 296, A 297, A 298, A 299) (nI s) 2 (nI k) = (A 295 s, upd (A 295) s 2, upd (A 296) s (nI k), upd (A 297) s 0, upd (A 298) s (A 293 k), lyr (A 294) (A 299) (24 * k) (24 * s) 24) := by
                 unfold o_lay; rw [if_pos ⟨by omega, Or.inr (Or.inr (Or.inr ⟨rfl, by omega, by omega⟩))⟩, cs, ck, if_neg (fun q => m0 q.2), if_neg (by decide), if_neg (by decide), if_pos rfl, if_pos rfl]
               rw [e] at h
               refine h _ _ _ _ (hI.lay hs (((fr.rf.sI (Or.inr (Or.inl rfl)) 64 _).sI (Or.inr (Or.inl rfl)) 65 _).sX (Or.inr (Or.inr rfl)) _) (Or.inr (Or.inr (Or.inl rfl))) (fun i hi => pk_un hi) (by rw [pk_us]; exact (hSI k hk).2) (fun i j hi hj => ?_) (fun q => absurd q (by decide)) (fun q => absurd q (by decide)) (fun _ => ⟨?_, fun j hj => ?_⟩))
               · unfold lyr; rw [if_neg (by omega)]
               · rw [pk_us]
                 show gI (sI (sI S 64 (ct (30 + s)) _) 65 (ct (30 + s)) _) 65 (ct (30 + s)) = _
                 rw [gI_sI, if_pos ⟨rfl, rfl⟩]; exact (hSH.2 k hk).2.1
               · rw [gX_sX, if_pos rfl, cpy_at, if_pos (by omega), (hSH.2 k hk).2.2 _ (by omega)]
                 unfold lyr
                 rw [if_pos (by omega)]
                 exact congrArg (A 294) (by omega))
            | (have e : o_lay (A 288) (A 292) (A 293) (A 294) n (A 295, A 296, A 297, A 298, A 299) (nI s) th v = (A 295 s, upd (A 295) s th, upd (A 296) s v, upd (A 297) s 0, A 298, A 299) := by
                 unfold o_lay; rw [if_pos ⟨by omega, t03.elim Or.inl (fun q => Or.inr (Or.inl q))⟩, cs, if_neg (fun q => h66 q.1), if_neg h33, if_neg h33, if_neg h66, if_neg h66]
               rw [e] at h
               exact h _ _ _ _ (hI.lay hs fr.rf (t03.elim Or.inl (fun q => Or.inr (Or.inr (Or.inr q)))) (fun _ _ => rfl) hzs (fun _ _ _ _ => rfl) (fun _ => rfl) (fun q => absurd q h33) (fun q => absurd q h66)))
        · subst h66
          refine V_aln (pc := 69) dX8_lay_69 rfl rfl ?_
          refine V_iln (pc := 70) dX8_lay_70 rfl rfl ?_
          refine V_cVr0 (pc := 71) (jc_X8_249 dX8_lay_71 rfl) rfl rfl (Nat.le_of_ble_eq_true rfl) hC.1 ?_
          refine c_sheetAt hC (fun k hk ek tk ck => ?_) (fun s0k => ?_)
          · subst ek
            refine V_as (pc := 74) (ls' := [(0, .ref cc), (1, .int (nI s)), (2, .int 2), (3, .int (nI k)), (4, .ref ((ct (20 + s)))), (5, .int y29), (6, .ref ((ct (10 + k))))]) dX8_lay_74 (by decide) rfl ?_
            refine V_al (pc := 76) dX8_lay_76 rfl ?_
            refine V_ifnonnull (pc := 78) (t := 84) dX8_lay_78 (by decide) ?_
            refine V_al (pc := 84) dX8_lay_84 rfl ?_
            refine V_cVi0 (pc := 86) (jc_X8_258 dX8_lay_86 rfl) rfl rfl (Nat.le_of_ble_eq_true rfl) (hC.h10 hk) ?_
            refine d_missing hC hSH hk (fun m1 => ?_) (fun m0 => ?_)
            · refine V_eq (pc := 89) (t := 96) dX8_lay_89 (by decide) (fun h => absurd h (by decide)) (fun _ => ?_)
              refine V_ldcw (pc := 92) dX8_lay_92 (KC_X8_261 rfl) ?_
              refine V_iret (pc := 95) dX8_lay_95 rfl rfl ?_
              unfold o_lay at h
              rw [if_pos ⟨by omega, Or.inr (Or.inr (Or.inr ⟨rfl, by omega, by omega⟩))⟩, ck, if_pos ⟨rfl, m1⟩] at h
              exact h S _ _ _ (NX.rfH hI)
            · refine V_eq (pc := 89) (t := 96) dX8_lay_89 (by decide) (fun _ => ?_) (fun h => absurd h (by decide))
              refine V_al (pc := 96) dX8_lay_96 rfl ?_
              refine V_gr (pc := 98) 3 3 99 dX8_lay_98 (FL_X8_304 rfl) rfl rfl (hC.h20 hs) (hC.sl hs).2.2.1 ?_
              refine V_al (pc := 101) dX8_lay_101 rfl ?_
              refine V_cVv0 (pc := 103) (jc_X8_308 dX8_lay_103 rfl) rfl rfl (Nat.le_of_ble_eq_true rfl) (hC.h30 hs) ?_
              refine sh_becomeAs (hC.h30 hs) (hC.sl hs).2.2.2 (hC.h35 hs).1 (hC.h35 hs).2 (hC.h10 hk) (hC.sh hk).2 (hC.h14 hk).1 (hC.h14 hk).2 (fun q => by have := hC.inj (i := 10 + k) (j := 30 + s) (by unfold cIx; omega) (by unfold cIx; omega) q; omega) ?_
              refine V_al (pc := 106) dX8_lay_106 rfl ?_
              refine V_iln (pc := 108) dX8_lay_108 rfl rfl ?_
              refine V_pi (pc := 109) 3 1 97 dX8_lay_109 (FL_X8_311 rfl) rfl rfl rfl (hC.h20 hs) ?_
              refine V_al (pc := 112) dX8_lay_112 rfl ?_
              refine V_iln (pc := 114) dX8_lay_114 rfl rfl ?_
              refine V_pi (pc := 115) 3 0 96 dX8_lay_115 (FL_X8_294 rfl) rfl rfl rfl (hC.h20 hs) ?_
              refine V_il (pc := 118) dX8_lay_118 rfl ?_
              refine V_iret (pc := 120) dX8_lay_120 rfl rfl ?_
              rw [ey29]
              have hzs := (hSL.1 s hs).2
              first
                | (have e : o_lay (A 288) (A 292) (A 293) (A 294) n (A 295, A 296, A 297, A 298, A 299) (nI s) 1 (nI i) = (A 295 s, upd (A 295) s 1, upd (A 296) s (A 288 (14 + 4 * i + 0)), upd (A 297) s (fworth (A 288 (14 + 4 * i + 0)) (A 288 (14 + 4 * i + 2)) (A 288 (14 + 4 * i + 3))), A 298, A 299) := by
                     unfold o_lay; rw [if_pos ⟨by omega, Or.inr (Or.inr (Or.inl ⟨rfl, by omega, by omega⟩))⟩, cs, ci, if_neg (fun q => absurd q.1 (by decide)), if_pos rfl, if_pos rfl, if_neg (by decide), if_neg (by decide)]
                   rw [e] at h
                   obtain ⟨g1, g2, g3, g4⟩ := gI_s4 S (ct (25 + s)) (A 288 (14 + 4 * i + 0)) (A 288 (14 + 4 * i + 1)) (A 288 (14 + 4 * i + 2)) (A 288 (14 + 4 * i + 3))
                   obtain ⟨kd, hkd, ekd⟩ := (hV.1 i hi).1
                   exact h _ _ _ _ (hI.lay hs (s4_fr (Or.inl rfl) _ _ _ _) (Or.inr (Or.inl rfl)) (fun _ _ => rfl) hzs (fun _ _ _ _ => rfl) (fun q => absurd q (by decide)) (fun _ => ⟨⟨kd, hkd, g1.trans ekd, ekd⟩, by rw [g1, g3, g4]⟩) (fun q => absurd q (by decide))))
                | (have e : o_lay (A 288) (A 292) (A 293) (A 294) n (A 295, A 296, A 297, A 298, A 299) (nI s) 2 (nI k) = (A 295 s, upd (A 295) s 2, upd (A 296) s (nI k), upd (A 297) s 0, upd (A 298) s (A 293 k), lyr (A 294) (A 299) (24 * k) (24 * s) 24) := by
                     unfold o_lay; rw [if_pos ⟨by omega, Or.inr (Or.inr (Or.inr ⟨rfl, by omega, by omega⟩))⟩, cs, ck, if_neg (fun q => m0 q.2), if_neg (by decide), if_neg (by decide), if_pos rfl, if_pos rfl]
                   rw [e] at h
                   refine h _ _ _ _ (hI.lay hs (((fr.rf.sI (Or.inr (Or.inl rfl)) 64 _).sI (Or.inr (Or.inl rfl)) 65 _).sX (Or.inr (Or.inr rfl)) _) (Or.inr (Or.inr (Or.inl rfl))) (fun i hi => pk_un hi) (by rw [pk_us]; exact (hSI k hk).2) (fun i j hi hj => ?_) (fun q => absurd q (by decide)) (fun q => absurd q (by decide)) (fun _ => ⟨?_, fun j hj => ?_⟩))
                   · unfold lyr; rw [if_neg (by omega)]
                   · rw [pk_us]
                     show gI (sI (sI S 64 (ct (30 + s)) _) 65 (ct (30 + s)) _) 65 (ct (30 + s)) = _
                     rw [gI_sI, if_pos ⟨rfl, rfl⟩]; exact (hSH.2 k hk).2.1
                   · rw [gX_sX, if_pos rfl, cpy_at, if_pos (by omega), (hSH.2 k hk).2.2 _ (by omega)]
                     unfold lyr
                     rw [if_pos (by omega)]
                     exact congrArg (A 294) (by omega))
                | (have e : o_lay (A 288) (A 292) (A 293) (A 294) n (A 295, A 296, A 297, A 298, A 299) (nI s) th v = (A 295 s, upd (A 295) s th, upd (A 296) s v, upd (A 297) s 0, A 298, A 299) := by
                     unfold o_lay; rw [if_pos ⟨by omega, t03.elim Or.inl (fun q => Or.inr (Or.inl q))⟩, cs, if_neg (fun q => h66 q.1), if_neg h33, if_neg h33, if_neg h66, if_neg h66]
                   rw [e] at h
                   exact h _ _ _ _ (hI.lay hs fr.rf (t03.elim Or.inl (fun q => Or.inr (Or.inr (Or.inr q)))) (fun _ _ => rfl) hzs (fun _ _ _ _ => rfl) (fun _ => rfl) (fun q => absurd q h33) (fun q => absurd q h66)))
          · refine V_asN (pc := 74) (ls' := [(0, .ref cc), (1, .int (nI s)), (2, .int 2), (3, .int v), (4, .ref ((ct (20 + s)))), (5, .int y29), (6, .null)]) dX8_lay_74 (by decide) rfl ?_
            refine V_alN (pc := 76) dX8_lay_76 rfl ?_
            refine V_ifnonnullN (pc := 78) (t := 84) dX8_lay_78 (by decide) ?_
            refine V_ldc (pc := 81) dX8_lay_81 (KC_X8_60 rfl) ?_
            refine V_iret (pc := 83) dX8_lay_83 rfl rfl ?_
            have nb : ¬ ((0 ≤ (nI s).toInt ∧ (nI s).toInt ≤ 4) ∧ ((2 : Int32) = 0 ∨ (2 : Int32) = 3 ∨ ((2 : Int32) = 1 ∧ 0 ≤ v.toInt ∧ v.toInt < n) ∨ ((2 : Int32) = 2 ∧ 0 ≤ v.toInt ∧ v.toInt ≤ 3))) := by
              rintro ⟨w1, w | w | ⟨w, _⟩ | ⟨_, w⟩⟩
              · exact absurd w (by decide)
              · exact absurd w (by decide)
              · exact absurd w (by decide)
              · exact s0k w
            unfold o_lay at h
            rw [if_neg nb] at h
            exact h S _ _ _ (NX.rfH hI)
      · subst h33
        refine V_aln (pc := 36) dX8_lay_36 rfl rfl ?_
        refine V_gr (pc := 37) 8 0 256 dX8_lay_37 (FL_X8_10 rfl) rfl rfl hC.1 hC.rl ?_
        refine V_iln (pc := 40) dX8_lay_40 rfl rfl ?_
        refine V_cVr0 (pc := 41) (jc_X8_70 dX8_lay_41 rfl) rfl rfl (Nat.le_of_ble_eq_true rfl) (hS.k 0 (by decide) rfl) ?_
        refine w_weightAt hS hW hn hn10 (fun i hi ei ti ci => ?_) (fun n0 => ?_)
        · subst ei
          refine V_as (pc := 44) (ls' := [(0, .ref cc), (1, .int (nI s)), (2, .int 1), (3, .int (nI i)), (4, .ref ((ct (20 + s)))), (5, .int y29), (6, .ref ((lv (10 + i))))]) dX8_lay_44 (by decide) rfl ?_
          refine V_al (pc := 46) dX8_lay_46 rfl ?_
          refine V_ifnonnull (pc := 48) (t := 54) dX8_lay_48 (by decide) ?_
          refine V_al (pc := 54) dX8_lay_54 rfl ?_
          refine V_gr (pc := 56) 3 2 98 dX8_lay_56 (FL_X8_297 rfl) rfl rfl (hC.h20 hs) (hC.sl hs).2.1 ?_
          refine V_al (pc := 59) dX8_lay_59 rfl ?_
          refine V_cVv0 (pc := 61) (jc_X8_301 dX8_lay_61 rfl) rfl rfl (Nat.le_of_ble_eq_true rfl) (hC.h25 hs) ?_
          refine c_becomeAs (hC.h25 hs) (hS.w (by omega)) ?_
          rw [hW.1 192 (10 + i) (14 + 4 * i + 0) (by unfold cI; omega), hW.1 193 (10 + i) (14 + 4 * i + 1) (by unfold cI; omega), hW.1 194 (10 + i) (14 + 4 * i + 2) (by unfold cI; omega), hW.1 195 (10 + i) (14 + 4 * i + 3) (by unfold cI; omega)]
          refine V_iln (pc := 64) dX8_lay_64 rfl rfl ?_
          refine V_iconst (pc := 65) (v := 2) dX8_lay_65 (by decide) ?_
          refine V_cne (pc := 66) (t := 106) dX8_lay_66 (by decide) (fun _ => ?_) (fun h => absurd h (by decide))
          refine V_al (pc := 106) dX8_lay_106 rfl ?_
          refine V_iln (pc := 108) dX8_lay_108 rfl rfl ?_
          refine V_pi (pc := 109) 3 1 97 dX8_lay_109 (FL_X8_311 rfl) rfl rfl rfl (hC.h20 hs) ?_
          refine V_al (pc := 112) dX8_lay_112 rfl ?_
          refine V_iln (pc := 114) dX8_lay_114 rfl rfl ?_
          refine V_pi (pc := 115) 3 0 96 dX8_lay_115 (FL_X8_294 rfl) rfl rfl rfl (hC.h20 hs) ?_
          refine V_il (pc := 118) dX8_lay_118 rfl ?_
          refine V_iret (pc := 120) dX8_lay_120 rfl rfl ?_
          rw [ey29]
          have hzs := (hSL.1 s hs).2
          first
            | (have e : o_lay (A 288) (A 292) (A 293) (A 294) n (A 295, A 296, A 297, A 298, A 299) (nI s) 1 (nI i) = (A 295 s, upd (A 295) s 1, upd (A 296) s (A 288 (14 + 4 * i + 0)), upd (A 297) s (fworth (A 288 (14 + 4 * i + 0)) (A 288 (14 + 4 * i + 2)) (A 288 (14 + 4 * i + 3))), A 298, A 299) := by
                 unfold o_lay; rw [if_pos ⟨by omega, Or.inr (Or.inr (Or.inl ⟨rfl, by omega, by omega⟩))⟩, cs, ci, if_neg (fun q => absurd q.1 (by decide)), if_pos rfl, if_pos rfl, if_neg (by decide), if_neg (by decide)]
               rw [e] at h
               obtain ⟨g1, g2, g3, g4⟩ := gI_s4 S (ct (25 + s)) (A 288 (14 + 4 * i + 0)) (A 288 (14 + 4 * i + 1)) (A 288 (14 + 4 * i + 2)) (A 288 (14 + 4 * i + 3))
               obtain ⟨kd, hkd, ekd⟩ := (hV.1 i hi).1
               exact h _ _ _ _ (hI.lay hs (s4_fr (Or.inl rfl) _ _ _ _) (Or.inr (Or.inl rfl)) (fun _ _ => rfl) hzs (fun _ _ _ _ => rfl) (fun q => absurd q (by decide)) (fun _ => ⟨⟨kd, hkd, g1.trans ekd, ekd⟩, by rw [g1, g3, g4]⟩) (fun q => absurd q (by decide))))
            | (have e : o_lay (A 288) (A 292) (A 293) (A 294) n (A 295, A 296, A 297, A 298, A 299) (nI s) 2 (nI k) = (A 295 s, upd (A 295) s 2, upd (A 296) s (nI k), upd (A 297) s 0, upd (A 298) s (A 293 k), lyr (A 294) (A 299) (24 * k) (24 * s) 24) := by
                 unfold o_lay; rw [if_pos ⟨by omega, Or.inr (Or.inr (Or.inr ⟨rfl, by omega, by omega⟩))⟩, cs, ck, if_neg (fun q => m0 q.2), if_neg (by decide), if_neg (by decide), if_pos rfl, if_pos rfl]
               rw [e] at h
               refine h _ _ _ _ (hI.lay hs (((fr.rf.sI (Or.inr (Or.inl rfl)) 64 _).sI (Or.inr (Or.inl rfl)) 65 _).sX (Or.inr (Or.inr rfl)) _) (Or.inr (Or.inr (Or.inl rfl))) (fun i hi => pk_un hi) (by rw [pk_us]; exact (hSI k hk).2) (fun i j hi hj => ?_) (fun q => absurd q (by decide)) (fun q => absurd q (by decide)) (fun _ => ⟨?_, fun j hj => ?_⟩))
               · unfold lyr; rw [if_neg (by omega)]
               · rw [pk_us]
                 show gI (sI (sI S 64 (ct (30 + s)) _) 65 (ct (30 + s)) _) 65 (ct (30 + s)) = _
                 rw [gI_sI, if_pos ⟨rfl, rfl⟩]; exact (hSH.2 k hk).2.1
               · rw [gX_sX, if_pos rfl, cpy_at, if_pos (by omega), (hSH.2 k hk).2.2 _ (by omega)]
                 unfold lyr
                 rw [if_pos (by omega)]
                 exact congrArg (A 294) (by omega))
            | (have e : o_lay (A 288) (A 292) (A 293) (A 294) n (A 295, A 296, A 297, A 298, A 299) (nI s) th v = (A 295 s, upd (A 295) s th, upd (A 296) s v, upd (A 297) s 0, A 298, A 299) := by
                 unfold o_lay; rw [if_pos ⟨by omega, t03.elim Or.inl (fun q => Or.inr (Or.inl q))⟩, cs, if_neg (fun q => h66 q.1), if_neg h33, if_neg h33, if_neg h66, if_neg h66]
               rw [e] at h
               exact h _ _ _ _ (hI.lay hs fr.rf (t03.elim Or.inl (fun q => Or.inr (Or.inr (Or.inr q)))) (fun _ _ => rfl) hzs (fun _ _ _ _ => rfl) (fun _ => rfl) (fun q => absurd q h33) (fun q => absurd q h66)))
        · refine V_asN (pc := 44) (ls' := [(0, .ref cc), (1, .int (nI s)), (2, .int 1), (3, .int v), (4, .ref ((ct (20 + s)))), (5, .int y29), (6, .null)]) dX8_lay_44 (by decide) rfl ?_
          refine V_alN (pc := 46) dX8_lay_46 rfl ?_
          refine V_ifnonnullN (pc := 48) (t := 54) dX8_lay_48 (by decide) ?_
          refine V_ldc (pc := 51) dX8_lay_51 (KC_X8_60 rfl) ?_
          refine V_iret (pc := 53) dX8_lay_53 rfl rfl ?_
          have nb : ¬ ((0 ≤ (nI s).toInt ∧ (nI s).toInt ≤ 4) ∧ ((1 : Int32) = 0 ∨ (1 : Int32) = 3 ∨ ((1 : Int32) = 1 ∧ 0 ≤ v.toInt ∧ v.toInt < n) ∨ ((1 : Int32) = 2 ∧ 0 ≤ v.toInt ∧ v.toInt ≤ 3))) := by
            rintro ⟨w1, w | w | ⟨_, w⟩ | ⟨w, _⟩⟩
            · exact absurd w (by decide)
            · exact absurd w (by decide)
            · exact n0 w
            · exact absurd w (by decide)
          unfold o_lay at h
          rw [if_neg nb] at h
          exact h S _ _ _ (NX.rfH hI)
    · refine V_ne (pc := 18) (t := 24) dX8_lay_18 (by decide) (fun h => absurd h (by decide)) (fun _ => ?_)
      refine V_ldc (pc := 21) dX8_lay_21 (KC_X8_60 rfl) ?_
      refine V_iret (pc := 23) dX8_lay_23 rfl rfl ?_
      have nb : ¬ ((0 ≤ (nI s).toInt ∧ (nI s).toInt ≤ 4) ∧ (th = 0 ∨ th = 3 ∨ (th = 1 ∧ 0 ≤ v.toInt ∧ v.toInt < n) ∨ (th = 2 ∧ 0 ≤ v.toInt ∧ v.toInt ≤ 3))) := by
        rintro ⟨w1, w2⟩
        first
          | exact s0 w1
          | exact a0 (by
              have k0 : (0 : Int32).toInt = 0 := rfl
              have k1 : (1 : Int32).toInt = 1 := rfl
              have k2 : (2 : Int32).toInt = 2 := rfl
              have k3 : (3 : Int32).toInt = 3 := rfl
              rcases w2 with w | w | ⟨w, _⟩ | ⟨w, _⟩ <;> (rw [w]; omega))
      unfold o_lay at h
      rw [if_neg nb] at h
      exact h S _ _ _ (NX.rfH hI)
  · refine V_asN (pc := 5) (ls' := [(0, .ref cc), (1, .int u), (2, .int th), (3, .int v), (4, .null)]) dX8_lay_5 (by decide) rfl ?_
    refine V_alN (pc := 7) dX8_lay_7 rfl ?_
    refine V_ifnullN (pc := 9) (t := 21) dX8_lay_9 (by decide) ?_
    refine V_ldc (pc := 21) dX8_lay_21 (KC_X8_60 rfl) ?_
    refine V_iret (pc := 23) dX8_lay_23 rfl rfl ?_
    have nb : ¬ ((0 ≤ u.toInt ∧ u.toInt ≤ 4) ∧ (th = 0 ∨ th = 3 ∨ (th = 1 ∧ 0 ≤ v.toInt ∧ v.toInt < n) ∨ (th = 2 ∧ 0 ≤ v.toInt ∧ v.toInt ≤ 3))) := by
      rintro ⟨w1, w2⟩
      first
        | exact s0 w1
        | exact a0 (by
            have k0 : (0 : Int32).toInt = 0 := rfl
            have k1 : (1 : Int32).toInt = 1 := rfl
            have k2 : (2 : Int32).toInt = 2 := rfl
            have k3 : (3 : Int32).toInt = 3 := rfl
            rcases w2 with w | w | ⟨w, _⟩ | ⟨w, _⟩ <;> (rw [w]; omega))
    unfold o_lay at h
    rw [if_neg nb] at h
    exact h S _ _ _ (NX.rfH hI)
set_option maxRecDepth 100000 in
set_option maxHeartbeats 1000000 in
theorem C_tell {x : pX} {d : Nat} {S : pS} {Q : Int32 → pS → Prop} {cc m : Nat} {lv im tr ct as : Nat → Nat} {A : Nat → Nat → Int32} {F : Nat → Int32} {n nt np : Nat} (hI : IV S cc m lv im tr ct as A F n nt np) {w : Nat} (hw : F 316 = nI w) (hw60 : w ≤ 60) {v : Int32} (h : ∀ S2 n2 nt2 np2, NX S S2 cc m lv im tr ct as (va_up A 315 (o_tell (A 315) w v).2.1) (va_up F 316 (nI (o_tell (A 315) w v).2.2)) n2 nt2 np2 → Q ((o_tell (A 315) w v).1) S2) : PI x (d + 1) M_X8_tell [.ref cc, .int v] S Q := by
  have hC := hI.1
  have hMF := hI.2.1
  have hS := hC.wl
  have hW := hI.2.2.1.1
  have hX := hI.2.2.1.2.1
  have hMI := hI.2.2.1.2.2.1
  have hV := hI.2.2.1.2.2.2
  have hn := hMI.1.1
  have hn10 := hMI.1.2
  have ht := hMI.2.1.1
  have ht14 := hMI.2.1.2
  have hp := hMI.2.2.1.1
  have hp20 := hMI.2.2.1.2
  have hSH := hI.2.2.2.2.1
  have hSI := hSH.1
  have hSL := hI.2.2.2.2.2.1
  have hWQ := hI.2.2.2.2.2.2.1
  have hTP := hI.2.2.2.2.2.2.2
  have e5 : gI S 265 cc = nI w := hWQ.2.1.trans hw
  refine PM_of (by decide +kernel) (Nat.le_of_ble_eq_true rfl) ?_
  show V x (d + 1) M_X8_tell (qi Q) (0, 0) 0 [(0, .ref cc), (1, .int v)] [] S
  refine V_aln (pc := 0) dX8_tell_0 rfl rfl ?_
  refine V_gie (pc := 1) 8 9 265 dX8_tell_1 (FL_X8_315 rfl) rfl rfl hC.1 rfl ?_
  refine V_bipush (pc := 4) (v := 60) dX8_tell_4 (by decide) ?_
  refine V_clt (pc := 6) (t := 12) dX8_tell_6 (by decide) (fun h6 => ?_) (fun h6 => ?_)
  · rw [e5] at h6
    have w60 : w < 60 := Nat.lt_of_not_le (fun q => Int32.not_le.mpr h6 (nI_le (a := 60) q (by omega)))
    refine V_aln (pc := 12) dX8_tell_12 rfl rfl ?_
    refine V_gr (pc := 13) 8 8 264 dX8_tell_13 (FL_X8_46 rfl) rfl rfl hC.1 hC.r6 ?_
    refine V_aln (pc := 16) dX8_tell_16 rfl rfl ?_
    refine V_gie (pc := 17) 8 9 265 dX8_tell_17 (FL_X8_315 rfl) rfl rfl hC.1 rfl ?_
    refine V_iln (pc := 20) dX8_tell_20 rfl rfl ?_
    refine V_ias (pc := 21) (N := 60) w dX8_tell_21 (hC.k 6 (by decide) rfl) (hC.n 6 (by decide) (by decide) rfl) (by decide) e5 (by omega) ?_
    refine V_aln (pc := 22) dX8_tell_22 rfl rfl ?_
    refine V_dup (pc := 23) dX8_tell_23 rfl ?_
    refine V_gie (pc := 24) 8 9 265 dX8_tell_24 (FL_X8_315 rfl) rfl rfl hC.1 rfl ?_
    refine V_iconst (pc := 27) (v := 1) dX8_tell_27 (by decide) ?_
    refine V_iadd (pc := 28) dX8_tell_28 ?_
    refine V_pi (pc := 29) 8 9 265 dX8_tell_29 (FL_X8_315 rfl) rfl rfl rfl hC.1 ?_
    rw [show gI (sX S (ct 6) (upd (gX S (ct 6)) w v)) 265 cc = nI w from e5, nI_1]
    refine V_aln (pc := 32) dX8_tell_32 rfl rfl ?_
    refine V_gi (pc := 33) 8 9 265 dX8_tell_33 (FL_X8_315 rfl) rfl rfl hC.1 ?_
    refine V_iret (pc := 36) dX8_tell_36 rfl rfl ?_
    rw [gI_sI, if_pos ⟨rfl, rfl⟩]
    have e : o_tell (A 315) w v = (nI (w + 1), upd (A 315) w v, w + 1) := by unfold o_tell; rw [if_neg (by omega)]
    rw [e] at h
    refine h _ _ _ _ (hI.waits (T := fun b => b = cc ∨ b = ct 6) ((fr.rf.sX (Or.inr rfl) _).sI (Or.inl rfl) _ _) (fun a q => q) (by rw [gI_sI, if_neg (by omega)]; rfl) (fun f hf => va_up_ne _ _ hf) (fun f hf => va_up_ne _ _ hf) ⟨⟨w + 1, by omega, va_up_self _ _ _⟩, ?_, fun j hj => ?_⟩)
    · rw [gI_sI, if_pos ⟨rfl, rfl⟩, va_up_self]
    · show gX (sX S (ct 6) _) (ct 6) j = va_up A 315 _ 315 j
      rw [gX_sX, if_pos rfl, va_up_self]
      show _ = upd (A 315) w v j
      by_cases q : j = w
      · subst q; rw [pk_us, pk_us]
      · rw [pk_un q, pk_un q]; exact hWQ.2.2 j hj
  · rw [e5] at h6
    have w60 : w = 60 := by rcases Nat.lt_or_ge w 60 with q | q; exact absurd (Int32.not_le.mp (nI_ge (b := 60) q (by decide))) h6; omega
    refine V_ldc (pc := 9) dX8_tell_9 (KC_X8_65 rfl) ?_
    refine V_iret (pc := 11) dX8_tell_11 rfl rfl ?_
    have e : o_tell (A 315) w v = (-1000000003, A 315, w) := by unfold o_tell; rw [if_pos w60]
    rw [e] at h
    exact h S n nt np (by
      show NX S S cc m lv im tr ct as (va_up A 315 (A 315)) (va_up F 316 (nI w)) n nt np
      rw [vu_self, vu_selfE hw]; exact NX.rf hI)
set_option maxRecDepth 100000 in
set_option maxHeartbeats 1000000 in
theorem C_trim {x : pX} {d : Nat} {S : pS} {Q : Int32 → pS → Prop} {cc m : Nat} {lv im tr ct as : Nat → Nat} {A : Nat → Nat → Int32} {F : Nat → Int32} {n nt np : Nat} (hI : IV S cc m lv im tr ct as A F n nt np) {L : Nat} (hL : F 301 = nI L) (h96 : L ≤ 96) {v : Int32} (h : ∀ S2 n2 nt2 np2, NX S S2 cc m lv im tr ct as (A) (va_up F 301 (nI (o_trim L v).2)) n2 nt2 np2 → Q ((o_trim L v).1) S2) : PI x (d + 2) M_X8_trim [.ref cc, .int v] S Q := by
  have hC := hI.1
  have hMF := hI.2.1
  have hS := hC.wl
  have hW := hI.2.2.1.1
  have hX := hI.2.2.1.2.1
  have hMI := hI.2.2.1.2.2.1
  have hV := hI.2.2.1.2.2.2
  have hn := hMI.1.1
  have hn10 := hMI.1.2
  have ht := hMI.2.1.1
  have ht14 := hMI.2.1.2
  have hp := hMI.2.2.1.1
  have hp20 := hMI.2.2.1.2
  have hSH := hI.2.2.2.2.1
  have hSI := hSH.1
  have hSL := hI.2.2.2.2.2.1
  have hWQ := hI.2.2.2.2.2.2.1
  have hTP := hI.2.2.2.2.2.2.2
  have eL : gI S 129 (ct 1) = nI L := hTP.2.1.trans hL
  have tL : (nI L).toInt = L := nI_toInt (by omega)
  refine PM_of (by decide +kernel) (Nat.le_of_ble_eq_true rfl) ?_
  show V x (d + 2) M_X8_trim (qi Q) (0, 0) 0 [(0, .ref cc), (1, .int v)] [] S
  refine V_iln (pc := 0) dX8_trim_0 rfl rfl ?_
  refine V_iconst (pc := 1) (v := 0) dX8_trim_1 (by decide) ?_
  refine V_aln (pc := 2) dX8_trim_2 rfl rfl ?_
  refine V_gr (pc := 3) 8 5 261 dX8_trim_3 (FL_X8_33 rfl) rfl rfl hC.1 hC.r1 ?_
  refine V_gie (pc := 6) 4 1 129 dX8_trim_6 (FL_X8_212 rfl) rfl rfl (hC.k 1 (by decide) rfl) rfl ?_
  refine V_cSi0 (pc := 9) (jc_X8_56 dX8_trim_9 rfl) rfl rfl (Nat.le_of_ble_eq_true rfl) ?_
  rw [eL]
  refine c_within 0 L (by decide) tL (fun a1 a2 => ?_) (fun a0 => ?_)
  · obtain ⟨q, hq, eq⟩ := int_n (v := v) (N := L) a1 a2 (by omega)
    subst eq
    have cq : (nI q).toNatClampNeg = q := nI_clamp (by omega)
    refine V_ne (pc := 12) (t := 18) dX8_trim_12 (by decide) (fun _ => ?_) (fun h => absurd h (by decide))
    refine V_aln (pc := 18) dX8_trim_18 rfl rfl ?_
    refine V_gr (pc := 19) 8 5 261 dX8_trim_19 (FL_X8_33 rfl) rfl rfl hC.1 hC.r1 ?_
    refine V_iln (pc := 22) dX8_trim_22 rfl rfl ?_
    refine V_pi (pc := 23) 4 1 129 dX8_trim_23 (FL_X8_212 rfl) rfl rfl rfl (hC.k 1 (by decide) rfl) ?_
    refine V_iln (pc := 26) dX8_trim_26 rfl rfl ?_
    refine V_iret (pc := 27) dX8_trim_27 rfl rfl ?_
    have e : o_trim L (nI q) = (nI q, q) := by unfold o_trim; rw [if_pos ⟨a1, a2⟩, cq]
    rw [e] at h
    refine h _ _ _ _ (hI.tape (T := fun b => b = ct 1 ∨ b = ct 2) (fr.rf.sI (Or.inl rfl) 129 (nI q)) (fun a w => w) (fun _ _ => rfl) (fun f hf => va_up_ne _ _ hf) ⟨⟨q, by omega, va_up_self _ _ _⟩, ?_, hTP.2.2⟩)
    rw [gI_sI, if_pos ⟨rfl, rfl⟩, va_up_self]
  · refine V_ne (pc := 12) (t := 18) dX8_trim_12 (by decide) (fun h => absurd h (by decide)) (fun _ => ?_)
    refine V_ldc (pc := 15) dX8_trim_15 (KC_X8_60 rfl) ?_
    refine V_iret (pc := 17) dX8_trim_17 rfl rfl ?_
    have e : o_trim L v = (-1000000001, L) := by unfold o_trim; rw [if_neg a0]
    rw [e] at h
    exact h S n nt np (by
      show NX S S cc m lv im tr ct as A (va_up F 301 (nI L)) n nt np
      rw [vu_selfE hL]; exact NX.rf hI)
theorem and255 (y : Int32) : ∃ b : Nat, b < 256 ∧ y &&& 255 = nI b := by
  refine ⟨y.toBitVec.toNat % 256, Nat.mod_lt _ (by decide), ?_⟩
  apply Int32.toBitVec_inj.mp
  apply BitVec.eq_of_toNat_eq
  rw [Int32.toBitVec_and, BitVec.toNat_and]
  show y.toBitVec.toNat &&& 255 = (BitVec.ofNat 32 _).toNat
  rw [BitVec.toNat_ofNat, show (255 : Nat) = 2 ^ 8 - 1 from rfl, Nat.and_two_pow_sub_one_eq_mod]
  have := Nat.mod_lt y.toBitVec.toNat (show 0 < 256 by decide)
  show y.toBitVec.toNat % 256 = y.toBitVec.toNat % 256 % 2 ^ 32
  omega
theorem ad4_at {r r' : Nat → Int32} {N : Nat} (h : ∀ j, j < N → r j = r' j) (l : Nat) (v : Int32) : ∀ j, j < N → ad4 r l v j = ad4 r' l v j := fun j hj => by
  unfold ad4
  by_cases e3 : j = l + 3
  · subst e3; rw [pk_us, pk_us]
  rw [pk_un e3, pk_un e3]
  by_cases e2 : j = l + 2
  · subst e2; rw [pk_us, pk_us]
  rw [pk_un e2, pk_un e2]
  by_cases e1 : j = l + 1
  · subst e1; rw [pk_us, pk_us]
  rw [pk_un e1, pk_un e1]
  by_cases e0 : j = l
  · subst e0; rw [pk_us, pk_us]
  rw [pk_un e0, pk_un e0]; exact h j hj
theorem ad4_b {r : Nat → Int32} {N : Nat} (h : ∀ j, j < N → ∃ b : Nat, b < 256 ∧ r j = nI b) (l : Nat) (v : Int32) : ∀ j, j < N → ∃ b : Nat, b < 256 ∧ ad4 r l v j = nI b := fun j hj => by
  unfold ad4
  by_cases e3 : j = l + 3
  · subst e3; rw [pk_us]; exact and255 _
  rw [pk_un e3]
  by_cases e2 : j = l + 2
  · subst e2; rw [pk_us]; exact and255 _
  rw [pk_un e2]
  by_cases e1 : j = l + 1
  · subst e1; rw [pk_us]; exact and255 _
  rw [pk_un e1]
  by_cases e0 : j = l
  · subst e0; rw [pk_us]; exact and255 _
  rw [pk_un e0]; exact h j hj
theorem fby_k (v : Int32) : ∀ k, k < 12 → fby v k = v >>> ((if k % 4 = 0 then (24 : Int32) else if k % 4 = 1 then 16 else if k % 4 = 2 then 8 else 0) &&& 31) &&& 255 := by
  intro k hk
  have e : ∀ k, k < 12 → (24 - 8 * (nI k - nI k / 4 * 4)) = (if k % 4 = 0 then (24 : Int32) else if k % 4 = 1 then 16 else if k % 4 = 2 then 8 else 0) := by decide +kernel
  unfold fby
  rw [e k hk]
theorem fdt_12 (tp : Nat → Int32) (L : Nat) (a b e : Int32) : fdt tp L a b e 12 = ad4 (ad4 (ad4 tp L a) (L + 4) b) (L + 8) e := by
  show upd (upd (upd (upd (upd (upd (upd (upd (upd (upd (upd (upd tp (L + 0) (fby a 0)) (L + 1) (fby a 1)) (L + 2) (fby a 2)) (L + 3) (fby a 3)) (L + 4) (fby b 4)) (L + 5) (fby b 5)) (L + 6) (fby b 6)) (L + 7) (fby b 7)) (L + 8) (fby e 8)) (L + 9) (fby e 9)) (L + 10) (fby e 10)) (L + 11) (fby e 11) = _
  rw [fby_k a 0 (by decide), fby_k a 1 (by decide), fby_k a 2 (by decide), fby_k a 3 (by decide), fby_k b 4 (by decide), fby_k b 5 (by decide), fby_k b 6 (by decide), fby_k b 7 (by decide), fby_k e 8 (by decide), fby_k e 9 (by decide), fby_k e 10 (by decide), fby_k e 11 (by decide)]
  rfl
set_option maxRecDepth 100000 in
set_option maxHeartbeats 1000000 in
theorem C_feed {x : pX} {d : Nat} {S : pS} {Q : Int32 → pS → Prop} {cc m : Nat} {lv im tr ct as : Nat → Nat} {A : Nat → Nat → Int32} {F : Nat → Int32} {n nt np : Nat} (hI : IV S cc m lv im tr ct as A F n nt np) {L : Nat} (hL : F 301 = nI L) (h96 : L ≤ 96) {a b e : Int32} (h : ∀ S2 n2 nt2 np2, NX S S2 cc m lv im tr ct as (va_up A 300 (o_feed (A 300) L a b e).2.1) (va_up F 301 (nI (o_feed (A 300) L a b e).2.2)) n2 nt2 np2 → Q ((o_feed (A 300) L a b e).1) S2) : PI x (d + 2) M_X8_feed [.ref cc, .int a, .int b, .int e] S Q := by
  have hC := hI.1
  have hMF := hI.2.1
  have hS := hC.wl
  have hW := hI.2.2.1.1
  have hX := hI.2.2.1.2.1
  have hMI := hI.2.2.1.2.2.1
  have hV := hI.2.2.1.2.2.2
  have hn := hMI.1.1
  have hn10 := hMI.1.2
  have ht := hMI.2.1.1
  have ht14 := hMI.2.1.2
  have hp := hMI.2.2.1.1
  have hp20 := hMI.2.2.1.2
  have hSH := hI.2.2.2.2.1
  have hSI := hSH.1
  have hSL := hI.2.2.2.2.2.1
  have hWQ := hI.2.2.2.2.2.2.1
  have hTP := hI.2.2.2.2.2.2.2
  have eL : gI S 129 (ct 1) = nI L := hTP.2.1.trans hL
  refine PM_of (by decide +kernel) (Nat.le_of_ble_eq_true rfl) ?_
  show V x (d + 2) M_X8_feed (qi Q) (0, 0) 0 [(0, .ref cc), (1, .int a), (2, .int b), (3, .int e)] [] S
  refine V_aln (pc := 0) dX8_feed_0 rfl rfl ?_
  refine V_gr (pc := 1) 8 5 261 dX8_feed_1 (FL_X8_33 rfl) rfl rfl hC.1 hC.r1 ?_
  refine V_gie (pc := 4) 4 1 129 dX8_feed_4 (FL_X8_212 rfl) rfl rfl (hC.k 1 (by decide) rfl) rfl ?_
  refine V_bipush (pc := 7) (v := 84) dX8_feed_7 (by decide) ?_
  refine V_cle (pc := 9) (t := 15) dX8_feed_9 (by decide) (fun h9 => ?_) (fun h9 => ?_)
  · rw [eL] at h9
    have l84 : L ≤ 84 := Nat.le_of_not_lt (fun q => nI_ge (b := L) (a := 84) q (by omega) h9)
    refine V_aln (pc := 15) dX8_feed_15 rfl rfl ?_
    refine V_gr (pc := 16) 8 5 261 dX8_feed_16 (FL_X8_33 rfl) rfl rfl hC.1 hC.r1 ?_
    refine V_iln (pc := 19) dX8_feed_19 rfl rfl ?_
    refine V_cVv0 (pc := 20) (jc_X8_217 dX8_feed_20 rfl) rfl rfl (Nat.le_of_ble_eq_true rfl) (hC.k 1 (by decide) rfl) ?_
    refine t_addNumber (hC.k 1 (by decide) rfl) hC.rt2 (hC.k 2 (by decide) rfl) (hC.n 2 (by decide) (by decide) rfl) eL (by omega) (fun S1 f1 l1 x1 => ?_)
    have hC1 := hC.sp f1.1
    · refine V_aln (pc := 23) dX8_feed_23 rfl rfl ?_
      refine V_gr (pc := 24) 8 5 261 dX8_feed_24 (FL_X8_33 rfl) rfl rfl hC1.1 hC1.r1 ?_
      refine V_iln (pc := 27) dX8_feed_27 rfl rfl ?_
      refine V_cVv0 (pc := 28) (jc_X8_217 dX8_feed_28 rfl) rfl rfl (Nat.le_of_ble_eq_true rfl) (hC1.k 1 (by decide) rfl) ?_
      refine t_addNumber (hC1.k 1 (by decide) rfl) hC1.rt2 (hC1.k 2 (by decide) rfl) (hC1.n 2 (by decide) (by decide) rfl) l1 (by omega) (fun S2 f2 l2 x2 => ?_)
      have hC2 := hC1.sp f2.1
      replace f2 := f1.tr f2
      · refine V_aln (pc := 31) dX8_feed_31 rfl rfl ?_
        refine V_gr (pc := 32) 8 5 261 dX8_feed_32 (FL_X8_33 rfl) rfl rfl hC2.1 hC2.r1 ?_
        refine V_iln (pc := 35) dX8_feed_35 rfl rfl ?_
        refine V_cVv0 (pc := 36) (jc_X8_217 dX8_feed_36 rfl) rfl rfl (Nat.le_of_ble_eq_true rfl) (hC2.k 1 (by decide) rfl) ?_
        refine t_addNumber (hC2.k 1 (by decide) rfl) hC2.rt2 (hC2.k 2 (by decide) rfl) (hC2.n 2 (by decide) (by decide) rfl) l2 (by omega) (fun S3 f3 l3 x3 => ?_)
        have hC3 := hC2.sp f3.1
        replace f3 := f2.tr f3
        · refine V_aln (pc := 39) dX8_feed_39 rfl rfl ?_
          refine V_gr (pc := 40) 8 5 261 dX8_feed_40 (FL_X8_33 rfl) rfl rfl hC3.1 hC3.r1 ?_
          refine V_gie (pc := 43) 4 1 129 dX8_feed_43 (FL_X8_212 rfl) rfl rfl (hC3.k 1 (by decide) rfl) rfl ?_
          refine V_iret (pc := 46) dX8_feed_46 rfl rfl ?_
          rw [l3]
          have q : o_feed (A 300) L a b e = (nI (L + 12), fdt (A 300) L a b e 12, L + 12) := by unfold o_feed; rw [if_pos (by omega)]
          rw [q] at h
          refine h _ _ _ _ (hI.tape f3 (fun a w => w) (fun f hf => va_up_ne _ _ hf) (fun f hf => va_up_ne _ _ hf) ⟨⟨L + 12, by omega, va_up_self _ _ _⟩, ?_, fun j hj => ?_, ?_⟩)
          · rw [l3, va_up_self]
          · rw [va_up_self, x3, x2, x1]
            show _ = fdt (A 300) L a b e 12 j
            rw [fdt_12]
            exact ad4_at (ad4_at (ad4_at (fun j hj => hTP.2.2.1 j hj) L a) (L + 4) b) (L + 8) e j hj
          · rw [va_up_self]
            show ∀ j, j < 96 → ∃ b_1 : Nat, b_1 < 256 ∧ fdt (A 300) L a b e 12 j = nI b_1
            rw [fdt_12]
            exact ad4_b (ad4_b (ad4_b hTP.2.2.2 L a) (L + 4) b) (L + 8) e
  · rw [eL] at h9
    have l84 : ¬ L ≤ 84 := fun q => h9 (nI_le (b := 84) q (by decide))
    refine V_ldc (pc := 12) dX8_feed_12 (KC_X8_65 rfl) ?_
    refine V_iret (pc := 14) dX8_feed_14 rfl rfl ?_
    have q : o_feed (A 300) L a b e = (-1000000003, A 300, L) := by unfold o_feed; rw [if_neg (by omega)]
    rw [q] at h
    exact h S n nt np (by
      show NX S S cc m lv im tr ct as (va_up A 300 (A 300)) (va_up F 301 (nI L)) n nt np
      rw [vu_self, vu_selfE hL]; exact NX.rf hI)
